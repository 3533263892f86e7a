/-! ===== BEGIN printed: names, fields, word lists, decode rows ===== -/
def RX0 : String := "LampHills$Night"
def TX0 : u_T := fun k => match k with
  | 0 => ("LampHills$Night", "minute", "I", false)
  | 1 => ("LampHills$Night", "number", "I", false)
  | 2 => ("LampHills$Night", "oilUsed", "I", false)
  | 3 => ("LampHills$Night", "burningIn", "[I", true)
  | 4 => ("LampHills$Night", "oil", "[I", true)
  | 5 => ("LampHills$Night", "soot", "[I", true)
  | 6 => ("LampHills$Night", "burns", "[Z", true)
  | 7 => ("LampHills$Night", "timesLit", "[I", true)
  | 8 => ("LampHills$Night", "timesBlownOut", "[I", true)
  | 9 => ("LampHills$Night", "at", "[I", true)
  | 10 => ("LampHills$Night", "can", "[I", true)
  | 11 => ("LampHills$Night", "goesTo", "[I", true)
  | 12 => ("LampHills$Night", "goal", "[I", true)
  | 13 => ("LampHills$Night", "minutesLeft", "[I", true)
  | 14 => ("LampHills$Night", "latestPlace", "[I", true)
  | _ => ("LampHills$Night", "litBy", "[I", true)
def tyX0 : Nat → FieldType := fun k => match k with
  | 0 => .int
  | 1 => .int
  | 2 => .int
  | 3 => .array .int
  | 4 => .array .int
  | 5 => .array .int
  | 6 => .array .boolean
  | 7 => .array .int
  | 8 => .array .int
  | 9 => .array .int
  | 10 => .array .int
  | 11 => .array .int
  | 12 => .array .int
  | 13 => .array .int
  | 14 => .array .int
  | _ => .array .int
abbrev wsX00 : List Cond := u_ws RX0 TX0 16
theorem nmX0 : ∀ a, a < 16 → ∀ b, b < 16 → a ≠ b → (TX0 a).2.1 ≠ (TX0 b).2.1 := by decide +kernel
theorem tyX0_ok : ∀ k, k < 16 → parseFieldDescriptor (TX0 k).2.2.1 = some (tyX0 k) := by decide +kernel
abbrev cX0_init : ByteArray := prog_2_method_1_code
def yX0_init : MethodName := ⟨RX0, "<init>", "()V"⟩
abbrev cX0_copy : ByteArray := prog_2_method_2_code
def yX0_copy : MethodName := ⟨RX0, "copy", "(LLampHills$Night;)V"⟩
abbrev cX0_goBy : ByteArray := prog_2_method_3_code
def yX0_goBy : MethodName := ⟨RX0, "goBy", "(LLampHills$Town;I)I"⟩
abbrev cX0_beginNext : ByteArray := prog_2_method_4_code
def yX0_beginNext : MethodName := ⟨RX0, "beginNext", "(LLampHills$Town;)V"⟩
abbrev cX0_sendHome : ByteArray := prog_2_method_5_code
def yX0_sendHome : MethodName := ⟨RX0, "sendHome", "(LLampHills$Town;I)V"⟩
abbrev cX0_whoGoesTo : ByteArray := prog_2_method_6_code
def yX0_whoGoesTo : MethodName := ⟨RX0, "whoGoesTo", "(LLampHills$Town;I)I"⟩
abbrev cX0_isDark : ByteArray := prog_2_method_7_code
def yX0_isDark : MethodName := ⟨RX0, "isDark", "(I)Z"⟩
abbrev cX0_burningLamps : ByteArray := prog_2_method_8_code
def yX0_burningLamps : MethodName := ⟨RX0, "burningLamps", "(LLampHills$Town;)I"⟩
abbrev cX0_darkStreets : ByteArray := prog_2_method_9_code
def yX0_darkStreets : MethodName := ⟨RX0, "darkStreets", "(LLampHills$Town;)I"⟩
abbrev cX0_oilOfLamps : ByteArray := prog_2_method_10_code
def yX0_oilOfLamps : MethodName := ⟨RX0, "oilOfLamps", "(LLampHills$Town;)I"⟩
abbrev cX0_moveLighters : ByteArray := prog_2_method_11_code
def yX0_moveLighters : MethodName := ⟨RX0, "moveLighters", "(LLampHills$Town;)I"⟩
abbrev cX0_lookForLamp : ByteArray := prog_2_method_12_code
def yX0_lookForLamp : MethodName := ⟨RX0, "lookForLamp", "(LLampHills$Town;I)V"⟩
abbrev cX0_placeOfNextLamp : ByteArray := prog_2_method_13_code
def yX0_placeOfNextLamp : MethodName := ⟨RX0, "placeOfNextLamp", "(LLampHills$Town;I)I"⟩
abbrev cX0_tendLamp : ByteArray := prog_2_method_14_code
def yX0_tendLamp : MethodName := ⟨RX0, "tendLamp", "(LLampHills$Town;I)Z"⟩
abbrev cX0_waitFromNow : ByteArray := prog_2_method_15_code
def yX0_waitFromNow : MethodName := ⟨RX0, "waitFromNow", "(I)V"⟩
abbrev cX0_burnLamps : ByteArray := prog_2_method_16_code
def yX0_burnLamps : MethodName := ⟨RX0, "burnLamps", "(LLampHills$Town;)V"⟩
abbrev cX0_useOil : ByteArray := prog_2_method_17_code
def yX0_useOil : MethodName := ⟨RX0, "useOil", "(LLampHills$Town;I)V"⟩
abbrev cX0_blow : ByteArray := prog_2_method_18_code
def yX0_blow : MethodName := ⟨RX0, "blow", "(LLampHills$Town;I)V"⟩
abbrev cX0_putOut : ByteArray := prog_2_method_19_code
def yX0_putOut : MethodName := ⟨RX0, "putOut", "(LLampHills$Town;I)V"⟩
def RX1 : String := "LampHills$Town"
def TX1 : u_T := fun k => match k with
  | 0 => ("LampHills$Town", "corners", "I", false)
  | 1 => ("LampHills$Town", "height", "[I", true)
  | 2 => ("LampHills$Town", "ways", "[[I", true)
  | 3 => ("LampHills$Town", "streets", "I", false)
  | 4 => ("LampHills$Town", "firstEnd", "[I", true)
  | 5 => ("LampHills$Town", "secondEnd", "[I", true)
  | 6 => ("LampHills$Town", "length", "[I", true)
  | 7 => ("LampHills$Town", "lamps", "I", false)
  | 8 => ("LampHills$Town", "lampStreet", "[I", true)
  | 9 => ("LampHills$Town", "lampHeight", "[I", true)
  | 10 => ("LampHills$Town", "lid", "[I", true)
  | 11 => ("LampHills$Town", "wind", "[I", true)
  | 12 => ("LampHills$Town", "lighters", "I", false)
  | 13 => ("LampHills$Town", "home", "[I", true)
  | 14 => ("LampHills$Town", "ladder", "[I", true)
  | 15 => ("LampHills$Town", "roundSize", "[I", true)
  | _ => ("LampHills$Town", "rounds", "[[I", true)
def tyX1 : Nat → FieldType := fun k => match k with
  | 0 => .int
  | 1 => .array .int
  | 2 => .array (.array .int)
  | 3 => .int
  | 4 => .array .int
  | 5 => .array .int
  | 6 => .array .int
  | 7 => .int
  | 8 => .array .int
  | 9 => .array .int
  | 10 => .array .int
  | 11 => .array .int
  | 12 => .int
  | 13 => .array .int
  | 14 => .array .int
  | 15 => .array .int
  | _ => .array (.array .int)
abbrev wsX10 : List Cond := u_ws RX1 TX1 17
theorem nmX1 : ∀ a, a < 17 → ∀ b, b < 17 → a ≠ b → (TX1 a).2.1 ≠ (TX1 b).2.1 := by decide +kernel
theorem tyX1_ok : ∀ k, k < 17 → parseFieldDescriptor (TX1 k).2.2.1 = some (tyX1 k) := by decide +kernel
abbrev cX1_init : ByteArray := prog_3_method_1_code
def yX1_init : MethodName := ⟨RX1, "<init>", "()V"⟩
abbrev cX1_addCorner : ByteArray := prog_3_method_2_code
def yX1_addCorner : MethodName := ⟨RX1, "addCorner", "(I)I"⟩
abbrev cX1_addStreet : ByteArray := prog_3_method_3_code
def yX1_addStreet : MethodName := ⟨RX1, "addStreet", "(III)I"⟩
abbrev cX1_addLamp : ByteArray := prog_3_method_4_code
def yX1_addLamp : MethodName := ⟨RX1, "addLamp", "(II)I"⟩
abbrev cX1_addLighter : ByteArray := prog_3_method_5_code
def yX1_addLighter : MethodName := ⟨RX1, "addLighter", "(II)I"⟩
abbrev cX1_addToRound : ByteArray := prog_3_method_6_code
def yX1_addToRound : MethodName := ⟨RX1, "addToRound", "(II)I"⟩
abbrev cX1_isInRound : ByteArray := prog_3_method_7_code
def yX1_isInRound : MethodName := ⟨RX1, "isInRound", "(II)Z"⟩
abbrev cX1_minutesAlong : ByteArray := prog_3_method_8_code
def yX1_minutesAlong : MethodName := ⟨RX1, "minutesAlong", "(III)I"⟩
abbrev cX1_shortenWays : ByteArray := prog_3_method_9_code
def yX1_shortenWays : MethodName := ⟨RX1, "shortenWays", "(III)V"⟩
abbrev cX1_nearerEnd : ByteArray := prog_3_method_10_code
def yX1_nearerEnd : MethodName := ⟨RX1, "nearerEnd", "(II)I"⟩
abbrev cX1_canReach : ByteArray := prog_3_method_11_code
def yX1_canReach : MethodName := ⟨RX1, "canReach", "(III)Z"⟩
abbrev cX1_windAtLamp : ByteArray := prog_3_method_12_code
def yX1_windAtLamp : MethodName := ⟨RX1, "windAtLamp", "(II)I"⟩
def RX2 : String := "LampHills"
def TX2 : u_T := fun k => match k with
  | 0 => ("LampHills", "town", "LLampHills$Town;", true)
  | 1 => ("LampHills", "night", "LLampHills$Night;", true)
  | 2 => ("LampHills", "forecast", "LLampHills$Night;", true)
  | _ => ("LampHills", "darkMinutes", "[I", true)
def tyX2 : Nat → FieldType := fun k => match k with
  | 0 => .object "LampHills$Town"
  | 1 => .object "LampHills$Night"
  | 2 => .object "LampHills$Night"
  | _ => .array .int
abbrev wsX20 : List Cond := u_ws RX2 TX2 4
theorem nmX2 : ∀ a, a < 4 → ∀ b, b < 4 → a ≠ b → (TX2 a).2.1 ≠ (TX2 b).2.1 := by decide +kernel
theorem tyX2_ok : ∀ k, k < 4 → parseFieldDescriptor (TX2 k).2.2.1 = some (tyX2 k) := by decide +kernel
abbrev cX2_init : ByteArray := prog_1_method_1_code
def yX2_init : MethodName := ⟨RX2, "<init>", "()V"⟩
abbrev cX2_corner : ByteArray := prog_1_method_2_code
def yX2_corner : MethodName := ⟨RX2, "corner", "(I)I"⟩
abbrev cX2_street : ByteArray := prog_1_method_3_code
def yX2_street : MethodName := ⟨RX2, "street", "(III)I"⟩
abbrev cX2_lamp : ByteArray := prog_1_method_4_code
def yX2_lamp : MethodName := ⟨RX2, "lamp", "(II)I"⟩
abbrev cX2_lid : ByteArray := prog_1_method_5_code
def yX2_lid : MethodName := ⟨RX2, "lid", "(II)I"⟩
abbrev cX2_setWind : ByteArray := prog_1_method_6_code
def yX2_setWind : MethodName := ⟨RX2, "setWind", "(II)I"⟩
abbrev cX2_hire : ByteArray := prog_1_method_7_code
def yX2_hire : MethodName := ⟨RX2, "hire", "(III)I"⟩
abbrev cX2_round : ByteArray := prog_1_method_8_code
def yX2_round : MethodName := ⟨RX2, "round", "(II)I"⟩
abbrev cX2_fill : ByteArray := prog_1_method_9_code
def yX2_fill : MethodName := ⟨RX2, "fill", "(II)I"⟩
abbrev cX2_way : ByteArray := prog_1_method_10_code
def yX2_way : MethodName := ⟨RX2, "way", "(II)I"⟩
abbrev cX2_told : ByteArray := prog_1_method_11_code
def yX2_told : MethodName := ⟨RX2, "told", "(II)I"⟩
abbrev cX2_lighter : ByteArray := prog_1_method_12_code
def yX2_lighter : MethodName := ⟨RX2, "lighter", "(II)I"⟩
abbrev cX2_burning : ByteArray := prog_1_method_13_code
def yX2_burning : MethodName := ⟨RX2, "burning", "(I)I"⟩
abbrev cX2_count : ByteArray := prog_1_method_14_code
def yX2_count : MethodName := ⟨RX2, "count", "(I)I"⟩
abbrev cX2_pass : ByteArray := prog_1_method_15_code
def yX2_pass : MethodName := ⟨RX2, "pass", "(I)I"⟩
abbrev cX2_dawn : ByteArray := prog_1_method_16_code
def yX2_dawn : MethodName := ⟨RX2, "dawn", "()I"⟩
abbrev cX2_comes : ByteArray := prog_1_method_17_code
def yX2_comes : MethodName := ⟨RX2, "comes", "(I)I"⟩
abbrev cX2_darkest : ByteArray := prog_1_method_18_code
def yX2_darkest : MethodName := ⟨RX2, "darkest", "()I"⟩
abbrev cX2_needs : ByteArray := prog_1_method_19_code
def yX2_needs : MethodName := ⟨RX2, "needs", "(I)I"⟩
abbrev cX2_foresee : ByteArray := prog_1_method_20_code
def yX2_foresee : MethodName := ⟨RX2, "foresee", "(II)I"⟩
abbrev cX2_mean : ByteArray := prog_1_method_21_code
def yX2_mean : MethodName := ⟨RX2, "mean", "()D"⟩
abbrev cX2_digest : ByteArray := prog_1_method_22_code
def yX2_digest : MethodName := ⟨RX2, "digest", "()J"⟩
abbrev cX2_requireIndex : ByteArray := prog_1_method_23_code
def yX2_requireIndex : MethodName := ⟨RX2, "requireIndex", "(II)V"⟩
abbrev cX2_requireRange : ByteArray := prog_1_method_24_code
def yX2_requireRange : MethodName := ⟨RX2, "requireRange", "(III)V"⟩
abbrev cX2_requireRoom : ByteArray := prog_1_method_25_code
def yX2_requireRoom : MethodName := ⟨RX2, "requireRoom", "(II)V"⟩
abbrev cX2_clearDarkMinutes : ByteArray := prog_1_method_26_code
def yX2_clearDarkMinutes : MethodName := ⟨RX2, "clearDarkMinutes", "()V"⟩
abbrev cX2_addDarkMinute : ByteArray := prog_1_method_27_code
def yX2_addDarkMinute : MethodName := ⟨RX2, "addDarkMinute", "()V"⟩
abbrev cX2_streetOfMostDarkMinutes : ByteArray := prog_1_method_28_code
def yX2_streetOfMostDarkMinutes : MethodName := ⟨RX2, "streetOfMostDarkMinutes", "()I"⟩
abbrev cX2_digestStreets : ByteArray := prog_1_method_29_code
def yX2_digestStreets : MethodName := ⟨RX2, "digestStreets", "(J)J"⟩
abbrev cX2_digestLamps : ByteArray := prog_1_method_30_code
def yX2_digestLamps : MethodName := ⟨RX2, "digestLamps", "(J)J"⟩
abbrev cX2_digestLighters : ByteArray := prog_1_method_31_code
def yX2_digestLighters : MethodName := ⟨RX2, "digestLighters", "(J)J"⟩
def RX3 : String := "LampHillsModel"
def TX3 : u_T := fun k => match k with
  | 0 => ("LampHillsModel", "thrown", "I", false)
  | 1 => ("LampHillsModel", "corners", "I", false)
  | 2 => ("LampHillsModel", "streets", "I", false)
  | 3 => ("LampHillsModel", "lamps", "I", false)
  | 4 => ("LampHillsModel", "lighters", "I", false)
  | 5 => ("LampHillsModel", "heights", "[I", true)
  | 6 => ("LampHillsModel", "roads", "[I", true)
  | 7 => ("LampHillsModel", "ways", "[I", true)
  | 8 => ("LampHillsModel", "lights", "[I", true)
  | 9 => ("LampHillsModel", "people", "[I", true)
  | 10 => ("LampHillsModel", "rounds", "[I", true)
  | 11 => ("LampHillsModel", "winds", "[I", true)
  | _ => ("LampHillsModel", "numbers", "[I", true)
def tyX3 : Nat → FieldType := fun k => match k with
  | 0 => .int
  | 1 => .int
  | 2 => .int
  | 3 => .int
  | 4 => .int
  | 5 => .array .int
  | 6 => .array .int
  | 7 => .array .int
  | 8 => .array .int
  | 9 => .array .int
  | 10 => .array .int
  | 11 => .array .int
  | _ => .array .int
abbrev wsX30 : List Cond := u_ws RX3 TX3 13
theorem nmX3 : ∀ a, a < 13 → ∀ b, b < 13 → a ≠ b → (TX3 a).2.1 ≠ (TX3 b).2.1 := by decide +kernel
theorem tyX3_ok : ∀ k, k < 13 → parseFieldDescriptor (TX3 k).2.2.1 = some (tyX3 k) := by decide +kernel
abbrev cX3_init : ByteArray := prog_5_method_1_code
def yX3_init : MethodName := ⟨RX3, "<init>", "()V"⟩
abbrev cX3_thrown : ByteArray := prog_5_method_2_code
def yX3_thrown : MethodName := ⟨RX3, "thrown", "()I"⟩
abbrev cX3_fail : ByteArray := prog_5_method_3_code
def yX3_fail : MethodName := ⟨RX3, "fail", "(I)I"⟩
abbrev cX3_isIn : ByteArray := prog_5_method_4_code
def yX3_isIn : MethodName := ⟨RX3, "isIn", "(III)Z"⟩
abbrev cX3_isCorner : ByteArray := prog_5_method_5_code
def yX3_isCorner : MethodName := ⟨RX3, "isCorner", "(I)Z"⟩
abbrev cX3_isStreet : ByteArray := prog_5_method_6_code
def yX3_isStreet : MethodName := ⟨RX3, "isStreet", "(I)Z"⟩
abbrev cX3_isLamp : ByteArray := prog_5_method_7_code
def yX3_isLamp : MethodName := ⟨RX3, "isLamp", "(I)Z"⟩
abbrev cX3_isLighter : ByteArray := prog_5_method_8_code
def yX3_isLighter : MethodName := ⟨RX3, "isLighter", "(I)Z"⟩
abbrev cX3_ro : ByteArray := prog_5_method_9_code
def yX3_ro : MethodName := ⟨RX3, "ro", "(II)I"⟩
abbrev cX3_la : ByteArray := prog_5_method_10_code
def yX3_la : MethodName := ⟨RX3, "la", "(II)I"⟩
abbrev cX3_setLamp : ByteArray := prog_5_method_11_code
def yX3_setLamp : MethodName := ⟨RX3, "setLamp", "(III)V"⟩
abbrev cX3_pe : ByteArray := prog_5_method_12_code
def yX3_pe : MethodName := ⟨RX3, "pe", "(II)I"⟩
abbrev cX3_put : ByteArray := prog_5_method_13_code
def yX3_put : MethodName := ⟨RX3, "put", "(III)V"⟩
abbrev cX3_reckon : ByteArray := prog_5_method_14_code
def yX3_reckon : MethodName := ⟨RX3, "reckon", "()V"⟩
abbrev cX3_corner : ByteArray := prog_5_method_15_code
def yX3_corner : MethodName := ⟨RX3, "corner", "(I)I"⟩
abbrev cX3_street : ByteArray := prog_5_method_16_code
def yX3_street : MethodName := ⟨RX3, "street", "(III)I"⟩
abbrev cX3_lamp : ByteArray := prog_5_method_17_code
def yX3_lamp : MethodName := ⟨RX3, "lamp", "(II)I"⟩
abbrev cX3_lid : ByteArray := prog_5_method_18_code
def yX3_lid : MethodName := ⟨RX3, "lid", "(II)I"⟩
abbrev cX3_setWind : ByteArray := prog_5_method_19_code
def yX3_setWind : MethodName := ⟨RX3, "setWind", "(II)I"⟩
abbrev cX3_hire : ByteArray := prog_5_method_20_code
def yX3_hire : MethodName := ⟨RX3, "hire", "(III)I"⟩
abbrev cX3_round : ByteArray := prog_5_method_21_code
def yX3_round : MethodName := ⟨RX3, "round", "(II)I"⟩
abbrev cX3_fill : ByteArray := prog_5_method_22_code
def yX3_fill : MethodName := ⟨RX3, "fill", "(II)I"⟩
abbrev cX3_away : ByteArray := prog_5_method_23_code
def yX3_away : MethodName := ⟨RX3, "away", "(II)I"⟩
abbrev cX3_way : ByteArray := prog_5_method_24_code
def yX3_way : MethodName := ⟨RX3, "way", "(II)I"⟩
abbrev cX3_goer : ByteArray := prog_5_method_25_code
def yX3_goer : MethodName := ⟨RX3, "goer", "(I)I"⟩
abbrev cX3_lampTold : ByteArray := prog_5_method_26_code
def yX3_lampTold : MethodName := ⟨RX3, "lampTold", "(II)I"⟩
abbrev cX3_told : ByteArray := prog_5_method_27_code
def yX3_told : MethodName := ⟨RX3, "told", "(II)I"⟩
abbrev cX3_lighterTold : ByteArray := prog_5_method_28_code
def yX3_lighterTold : MethodName := ⟨RX3, "lighterTold", "(II)I"⟩
abbrev cX3_lighter : ByteArray := prog_5_method_29_code
def yX3_lighter : MethodName := ⟨RX3, "lighter", "(II)I"⟩
abbrev cX3_burns : ByteArray := prog_5_method_30_code
def yX3_burns : MethodName := ⟨RX3, "burns", "(I)I"⟩
abbrev cX3_burning : ByteArray := prog_5_method_31_code
def yX3_burning : MethodName := ⟨RX3, "burning", "(I)I"⟩
abbrev cX3_all : ByteArray := prog_5_method_32_code
def yX3_all : MethodName := ⟨RX3, "all", "(I)I"⟩
abbrev cX3_dark : ByteArray := prog_5_method_33_code
def yX3_dark : MethodName := ⟨RX3, "dark", "()I"⟩
abbrev cX3_counted : ByteArray := prog_5_method_34_code
def yX3_counted : MethodName := ⟨RX3, "counted", "(I)I"⟩
abbrev cX3_count : ByteArray := prog_5_method_35_code
def yX3_count : MethodName := ⟨RX3, "count", "(I)I"⟩
abbrev cX3_corner_ : ByteArray := prog_5_method_36_code
def yX3_corner_ : MethodName := ⟨RX3, "corner", "(II)I"⟩
abbrev cX3_look : ByteArray := prog_5_method_37_code
def yX3_look : MethodName := ⟨RX3, "look", "(I)V"⟩
abbrev cX3_goOn : ByteArray := prog_5_method_38_code
def yX3_goOn : MethodName := ⟨RX3, "goOn", "(I)I"⟩
abbrev cX3_gust : ByteArray := prog_5_method_39_code
def yX3_gust : MethodName := ⟨RX3, "gust", "(II)I"⟩
abbrev cX3_burn : ByteArray := prog_5_method_40_code
def yX3_burn : MethodName := ⟨RX3, "burn", "(I)V"⟩
abbrev cX3_isOver : ByteArray := prog_5_method_41_code
def yX3_isOver : MethodName := ⟨RX3, "isOver", "()Z"⟩
abbrev cX3_minuteOn : ByteArray := prog_5_method_42_code
def yX3_minuteOn : MethodName := ⟨RX3, "minuteOn", "()I"⟩
abbrev cX3_minutesOn : ByteArray := prog_5_method_43_code
def yX3_minutesOn : MethodName := ⟨RX3, "minutesOn", "(I)V"⟩
abbrev cX3_pass : ByteArray := prog_5_method_44_code
def yX3_pass : MethodName := ⟨RX3, "pass", "(I)I"⟩
abbrev cX3_dawn : ByteArray := prog_5_method_45_code
def yX3_dawn : MethodName := ⟨RX3, "dawn", "()I"⟩
abbrev cX3_kept : ByteArray := prog_5_method_46_code
def yX3_kept : MethodName := ⟨RX3, "kept", "()[[I"⟩
abbrev cX3_bringBack : ByteArray := prog_5_method_47_code
def yX3_bringBack : MethodName := ⟨RX3, "bringBack", "([[I)V"⟩
abbrev cX3_comes : ByteArray := prog_5_method_48_code
def yX3_comes : MethodName := ⟨RX3, "comes", "(I)I"⟩
abbrev cX3_darkest : ByteArray := prog_5_method_49_code
def yX3_darkest : MethodName := ⟨RX3, "darkest", "()I"⟩
abbrev cX3_needs : ByteArray := prog_5_method_50_code
def yX3_needs : MethodName := ⟨RX3, "needs", "(I)I"⟩
abbrev cX3_foresee : ByteArray := prog_5_method_51_code
def yX3_foresee : MethodName := ⟨RX3, "foresee", "(II)I"⟩
abbrev cX3_mean : ByteArray := prog_5_method_52_code
def yX3_mean : MethodName := ⟨RX3, "mean", "()D"⟩
abbrev cX3_digest : ByteArray := prog_5_method_53_code
def yX3_digest : MethodName := ⟨RX3, "digest", "()J"⟩
def RJx8e188 : String := "java/lang/Cloneable"
def TJx8e188 : u_T := fun k => match k with
  | _ => ("", "", "", false)
def tyJx8e188 : Nat → FieldType := fun k => match k with
  | _ => .int
abbrev wsJx8e1880 : List Cond := u_ws RJx8e188 TJx8e188 0
theorem nmJx8e188 : ∀ a, a < 0 → ∀ b, b < 0 → a ≠ b → (TJx8e188 a).2.1 ≠ (TJx8e188 b).2.1 := by decide +kernel
theorem tyJx8e188_ok : ∀ k, k < 0 → parseFieldDescriptor (TJx8e188 k).2.2.1 = some (tyJx8e188 k) := by decide +kernel
def RJ9 : String := "java/lang/Math"
def TJ9 : u_T := fun k => match k with
  | _ => ("", "", "", false)
def tyJ9 : Nat → FieldType := fun k => match k with
  | _ => .int
abbrev wsJ90 : List Cond := u_ws RJ9 TJ9 0
theorem nmJ9 : ∀ a, a < 0 → ∀ b, b < 0 → a ≠ b → (TJ9 a).2.1 ≠ (TJ9 b).2.1 := by decide +kernel
theorem tyJ9_ok : ∀ k, k < 0 → parseFieldDescriptor (TJ9 k).2.2.1 = some (tyJ9 k) := by decide +kernel
abbrev cJ9_max_7cf53 : ByteArray := prog_11_method_65_code
def yJ9_max_7cf53 : MethodName := ⟨RJ9, "max", "(II)I"⟩
abbrev cJ9_min_7cf53 : ByteArray := prog_11_method_69_code
def yJ9_min_7cf53 : MethodName := ⟨RJ9, "min", "(II)I"⟩
def RJ0 : String := "java/lang/String"
def TJ0 : u_T := fun k => match k with
  | _ => ("", "", "", false)
def tyJ0 : Nat → FieldType := fun k => match k with
  | _ => .int
abbrev wsJ00 : List Cond := u_ws RJ0 TJ0 0
theorem nmJ0 : ∀ a, a < 0 → ∀ b, b < 0 → a ≠ b → (TJ0 a).2.1 ≠ (TJ0 b).2.1 := by decide +kernel
theorem tyJ0_ok : ∀ k, k < 0 → parseFieldDescriptor (TJ0 k).2.2.1 = some (tyJ0 k) := by decide +kernel
def RJ10 : String := "java/lang/System"
def TJ10 : u_T := fun k => match k with
  | _ => ("", "", "", false)
def tyJ10 : Nat → FieldType := fun k => match k with
  | _ => .int
abbrev wsJ100 : List Cond := u_ws RJ10 TJ10 0
theorem nmJ10 : ∀ a, a < 0 → ∀ b, b < 0 → a ≠ b → (TJ10 a).2.1 ≠ (TJ10 b).2.1 := by decide +kernel
theorem tyJ10_ok : ∀ k, k < 0 → parseFieldDescriptor (TJ10 k).2.2.1 = some (tyJ10 k) := by decide +kernel
def RL : String := "LampHillsLaw"
abbrev cL_corner : ByteArray := method_3_code
def yL_corner : MethodName := ⟨RL, "corner", "(LLampHills;I[J)I"⟩
abbrev cL_street : ByteArray := method_4_code
def yL_street : MethodName := ⟨RL, "street", "(LLampHills;III[J)I"⟩
abbrev cL_lamp : ByteArray := method_5_code
def yL_lamp : MethodName := ⟨RL, "lamp", "(LLampHills;II[J)I"⟩
abbrev cL_lid : ByteArray := method_6_code
def yL_lid : MethodName := ⟨RL, "lid", "(LLampHills;II[J)I"⟩
abbrev cL_setWind : ByteArray := method_7_code
def yL_setWind : MethodName := ⟨RL, "setWind", "(LLampHills;II[J)I"⟩
abbrev cL_hire : ByteArray := method_8_code
def yL_hire : MethodName := ⟨RL, "hire", "(LLampHills;III[J)I"⟩
abbrev cL_round : ByteArray := method_9_code
def yL_round : MethodName := ⟨RL, "round", "(LLampHills;II[J)I"⟩
abbrev cL_fill : ByteArray := method_10_code
def yL_fill : MethodName := ⟨RL, "fill", "(LLampHills;II[J)I"⟩
abbrev cL_way : ByteArray := method_11_code
def yL_way : MethodName := ⟨RL, "way", "(LLampHills;II[J)I"⟩
abbrev cL_told : ByteArray := method_12_code
def yL_told : MethodName := ⟨RL, "told", "(LLampHills;II[J)I"⟩
abbrev cL_lighter : ByteArray := method_13_code
def yL_lighter : MethodName := ⟨RL, "lighter", "(LLampHills;II[J)I"⟩
abbrev cL_burning : ByteArray := method_14_code
def yL_burning : MethodName := ⟨RL, "burning", "(LLampHills;I[J)I"⟩
abbrev cL_count : ByteArray := method_15_code
def yL_count : MethodName := ⟨RL, "count", "(LLampHills;I[J)I"⟩
abbrev cL_pass : ByteArray := method_16_code
def yL_pass : MethodName := ⟨RL, "pass", "(LLampHills;I[J)I"⟩
abbrev cL_dawn : ByteArray := method_17_code
def yL_dawn : MethodName := ⟨RL, "dawn", "(LLampHills;[J)I"⟩
abbrev cL_comes : ByteArray := method_18_code
def yL_comes : MethodName := ⟨RL, "comes", "(LLampHills;I[J)I"⟩
abbrev cL_needs : ByteArray := method_19_code
def yL_needs : MethodName := ⟨RL, "needs", "(LLampHills;I[J)I"⟩
abbrev cL_foresee : ByteArray := method_20_code
def yL_foresee : MethodName := ⟨RL, "foresee", "(LLampHills;II[J)I"⟩
abbrev cL_law : ByteArray := code
def yL_law : MethodName := ⟨RL, "law", "([I)Z"⟩
def wsX0_init : List Cond := .code yX0_init cX0_init 1 none :: ([.methodLink RX0 3 objectInit, .instanceMethod objectInit, .code objectInit ⟨#[0xb1]⟩ 1 none, .arrayClass .int, .fieldLink RX0 9 "LampHills$Night" "burningIn" "[I", .fieldLink RX0 15 "LampHills$Night" "oil" "[I", .fieldLink RX0 18 "LampHills$Night" "soot" "[I", .arrayClass .boolean, .fieldLink RX0 21 "LampHills$Night" "burns" "[Z", .fieldLink RX0 25 "LampHills$Night" "timesLit" "[I", .fieldLink RX0 28 "LampHills$Night" "timesBlownOut" "[I", .fieldLink RX0 31 "LampHills$Night" "at" "[I", .fieldLink RX0 34 "LampHills$Night" "can" "[I", .fieldLink RX0 37 "LampHills$Night" "goesTo" "[I", .fieldLink RX0 40 "LampHills$Night" "goal" "[I", .fieldLink RX0 43 "LampHills$Night" "minutesLeft" "[I", .fieldLink RX0 46 "LampHills$Night" "latestPlace" "[I", .fieldLink RX0 49 "LampHills$Night" "litBy" "[I"] ++ wsX00)
def wsX0_copy : List Cond := .code yX0_copy cX0_copy 3 none :: ([.fieldLink RX0 52 "LampHills$Night" "minute" "I", .fieldLink RX0 56 "LampHills$Night" "number" "I", .fieldLink RX0 59 "LampHills$Night" "oilUsed" "I", .fieldLink RX0 9 "LampHills$Night" "burningIn" "[I", .methodLink RX0 62 arraycopyName, .native arraycopyName, .static arraycopyName, .initialized "java/lang/System", .fieldLink RX0 15 "LampHills$Night" "oil" "[I", .fieldLink RX0 18 "LampHills$Night" "soot" "[I", .fieldLink RX0 21 "LampHills$Night" "burns" "[Z", .fieldLink RX0 25 "LampHills$Night" "timesLit" "[I", .fieldLink RX0 28 "LampHills$Night" "timesBlownOut" "[I", .fieldLink RX0 31 "LampHills$Night" "at" "[I", .fieldLink RX0 34 "LampHills$Night" "can" "[I", .fieldLink RX0 37 "LampHills$Night" "goesTo" "[I", .fieldLink RX0 40 "LampHills$Night" "goal" "[I", .fieldLink RX0 43 "LampHills$Night" "minutesLeft" "[I", .fieldLink RX0 46 "LampHills$Night" "latestPlace" "[I", .fieldLink RX0 49 "LampHills$Night" "litBy" "[I"] ++ wsX00)
def wsX0_whoGoesTo : List Cond := .code yX0_whoGoesTo cX0_whoGoesTo 4 (some .int) :: ([.fieldLink RX0 91 "LampHills$Town" "lighters" "I", .fieldLink RX0 37 "LampHills$Night" "goesTo" "[I"] ++ wsX10 ++ wsX00)
def wsX1_nearerEnd : List Cond := .code yX1_nearerEnd cX1_nearerEnd 6 (some .int) :: ([.fieldLink RX1 29 "LampHills$Town" "lampStreet" "[I", .fieldLink RX1 20 "LampHills$Town" "firstEnd" "[I", .fieldLink RX1 23 "LampHills$Town" "secondEnd" "[I", .fieldLink RX1 17 "LampHills$Town" "ways" "[[I"] ++ wsX10)
def wsX1_canReach : List Cond := .code yX1_canReach cX1_canReach 4 (some .boolean) :: ([.fieldLink RX1 32 "LampHills$Town" "lampHeight" "[I", .fieldLink RX1 44 "LampHills$Town" "ladder" "[I", .fieldLink RX1 17 "LampHills$Town" "ways" "[[I", .constant RX1 57 (1000000), .methodLink RX1 84 yX1_nearerEnd, .instanceMethod yX1_nearerEnd, .selects RX1 yX1_nearerEnd yX1_nearerEnd, .initialized RX1, .code yX1_nearerEnd cX1_nearerEnd 6 (some .int), .fieldLink RX1 29 "LampHills$Town" "lampStreet" "[I", .fieldLink RX1 20 "LampHills$Town" "firstEnd" "[I", .fieldLink RX1 23 "LampHills$Town" "secondEnd" "[I"] ++ wsX10)
def wsX0_placeOfNextLamp_r1 : List Cond := [Cond.fieldLink RX0 133 "LampHills$Town" "roundSize" "[I", Cond.fieldLink RX0 46 "LampHills$Night" "latestPlace" "[I", Cond.fieldLink RX0 122 "LampHills$Town" "rounds" "[[I", Cond.fieldLink RX0 21 "LampHills$Night" "burns" "[Z", Cond.fieldLink RX0 31 "LampHills$Night" "at" "[I", Cond.methodLink RX0 136 yX0_whoGoesTo, Cond.instanceMethod yX0_whoGoesTo, Cond.selects RX0 yX0_whoGoesTo yX0_whoGoesTo, Cond.initialized RX0, Cond.code yX0_whoGoesTo cX0_whoGoesTo 4 (some .int), Cond.fieldLink RX0 91 "LampHills$Town" "lighters" "I", Cond.fieldLink RX0 37 "LampHills$Night" "goesTo" "[I", Cond.methodLink RX0 139 yX1_canReach, Cond.instanceMethod yX1_canReach, Cond.selects RX1 yX1_canReach yX1_canReach, Cond.initialized RX1, Cond.code yX1_canReach cX1_canReach 4 (some .boolean), Cond.fieldLink RX1 32 "LampHills$Town" "lampHeight" "[I", Cond.fieldLink RX1 44 "LampHills$Town" "ladder" "[I", Cond.fieldLink RX1 17 "LampHills$Town" "ways" "[[I", Cond.constant RX1 57 (1000000), Cond.methodLink RX1 84 yX1_nearerEnd, Cond.instanceMethod yX1_nearerEnd, Cond.selects RX1 yX1_nearerEnd yX1_nearerEnd]
def wsX0_placeOfNextLamp_r2 : List Cond := [Cond.code yX1_nearerEnd cX1_nearerEnd 6 (some .int), Cond.fieldLink RX1 29 "LampHills$Town" "lampStreet" "[I", Cond.fieldLink RX1 20 "LampHills$Town" "firstEnd" "[I", Cond.fieldLink RX1 23 "LampHills$Town" "secondEnd" "[I"]
def wsX0_placeOfNextLamp : List Cond := .code yX0_placeOfNextLamp cX0_placeOfNextLamp 7 (some .int) :: ((wsX0_placeOfNextLamp_r1 ++ wsX0_placeOfNextLamp_r2) ++ wsX10 ++ wsX00)
def wsX0_lookForLamp_r1 : List Cond := [Cond.fieldLink RX0 122 "LampHills$Town" "rounds" "[[I", Cond.fieldLink RX0 34 "LampHills$Night" "can" "[I", Cond.fieldLink RX0 15 "LampHills$Night" "oil" "[I", Cond.fieldLink RX0 37 "LampHills$Night" "goesTo" "[I", Cond.fieldLink RX0 46 "LampHills$Night" "latestPlace" "[I", Cond.fieldLink RX0 40 "LampHills$Night" "goal" "[I", Cond.fieldLink RX0 31 "LampHills$Night" "at" "[I", Cond.fieldLink RX0 43 "LampHills$Night" "minutesLeft" "[I", Cond.fieldLink RX0 130 "LampHills$Town" "ways" "[[I", Cond.methodLink RX0 118 yX0_placeOfNextLamp, Cond.instanceMethod yX0_placeOfNextLamp, Cond.selects RX0 yX0_placeOfNextLamp yX0_placeOfNextLamp, Cond.initialized RX0, Cond.code yX0_placeOfNextLamp cX0_placeOfNextLamp 7 (some .int), Cond.fieldLink RX0 133 "LampHills$Town" "roundSize" "[I", Cond.fieldLink RX0 21 "LampHills$Night" "burns" "[Z", Cond.methodLink RX0 136 yX0_whoGoesTo, Cond.instanceMethod yX0_whoGoesTo, Cond.selects RX0 yX0_whoGoesTo yX0_whoGoesTo, Cond.code yX0_whoGoesTo cX0_whoGoesTo 4 (some .int), Cond.fieldLink RX0 91 "LampHills$Town" "lighters" "I", Cond.methodLink RX0 139 yX1_canReach, Cond.instanceMethod yX1_canReach, Cond.selects RX1 yX1_canReach yX1_canReach]
def wsX0_lookForLamp_r2 : List Cond := [Cond.initialized RX1, Cond.code yX1_canReach cX1_canReach 4 (some .boolean), Cond.fieldLink RX1 32 "LampHills$Town" "lampHeight" "[I", Cond.fieldLink RX1 44 "LampHills$Town" "ladder" "[I", Cond.fieldLink RX1 17 "LampHills$Town" "ways" "[[I", Cond.constant RX1 57 (1000000), Cond.methodLink RX1 84 yX1_nearerEnd, Cond.instanceMethod yX1_nearerEnd, Cond.selects RX1 yX1_nearerEnd yX1_nearerEnd, Cond.code yX1_nearerEnd cX1_nearerEnd 6 (some .int), Cond.fieldLink RX1 29 "LampHills$Town" "lampStreet" "[I", Cond.fieldLink RX1 20 "LampHills$Town" "firstEnd" "[I", Cond.fieldLink RX1 23 "LampHills$Town" "secondEnd" "[I", Cond.methodLink RX0 126 yX1_nearerEnd]
def wsX0_lookForLamp : List Cond := .code yX0_lookForLamp cX0_lookForLamp 5 none :: ((wsX0_lookForLamp_r1 ++ wsX0_lookForLamp_r2) ++ wsX10 ++ wsX00)
def wsX0_waitFromNow : List Cond := .code yX0_waitFromNow cX0_waitFromNow 2 none :: ([.fieldLink RX0 37 "LampHills$Night" "goesTo" "[I", .fieldLink RX0 43 "LampHills$Night" "minutesLeft" "[I"] ++ wsX00)
def wsX0_tendLamp : List Cond := .code yX0_tendLamp cX0_tendLamp 5 (some .boolean) :: ([.fieldLink RX0 37 "LampHills$Night" "goesTo" "[I", .fieldLink RX0 31 "LampHills$Night" "at" "[I", .fieldLink RX0 40 "LampHills$Night" "goal" "[I", .fieldLink RX0 34 "LampHills$Night" "can" "[I", .fieldLink RX0 15 "LampHills$Night" "oil" "[I", .methodLink RX0 143 Lib.Math.min.name, .static Lib.Math.min.name, .initialized "java/lang/Math", .code Lib.Math.min.name Lib.Math.min.code 2 (some .int), .fieldLink RX0 18 "LampHills$Night" "soot" "[I", .fieldLink RX0 21 "LampHills$Night" "burns" "[Z", .fieldLink RX0 9 "LampHills$Night" "burningIn" "[I", .fieldLink RX0 148 "LampHills$Town" "lampStreet" "[I", .fieldLink RX0 25 "LampHills$Night" "timesLit" "[I", .fieldLink RX0 49 "LampHills$Night" "litBy" "[I", .methodLink RX0 100 yX0_waitFromNow, .instanceMethod yX0_waitFromNow, .selects RX0 yX0_waitFromNow yX0_waitFromNow, .initialized RX0, .code yX0_waitFromNow cX0_waitFromNow 2 none, .fieldLink RX0 43 "LampHills$Night" "minutesLeft" "[I"] ++ wsX00 ++ wsX10)
def wsX0_moveLighters_r1 : List Cond := [Cond.fieldLink RX0 91 "LampHills$Town" "lighters" "I", Cond.fieldLink RX0 37 "LampHills$Night" "goesTo" "[I", Cond.fieldLink RX0 43 "LampHills$Night" "minutesLeft" "[I", Cond.methodLink RX0 111 yX0_lookForLamp, Cond.instanceMethod yX0_lookForLamp, Cond.selects RX0 yX0_lookForLamp yX0_lookForLamp, Cond.initialized RX0, Cond.code yX0_lookForLamp cX0_lookForLamp 5 none, Cond.fieldLink RX0 122 "LampHills$Town" "rounds" "[[I", Cond.fieldLink RX0 34 "LampHills$Night" "can" "[I", Cond.fieldLink RX0 15 "LampHills$Night" "oil" "[I", Cond.fieldLink RX0 46 "LampHills$Night" "latestPlace" "[I", Cond.fieldLink RX0 40 "LampHills$Night" "goal" "[I", Cond.fieldLink RX0 31 "LampHills$Night" "at" "[I", Cond.fieldLink RX0 130 "LampHills$Town" "ways" "[[I", Cond.methodLink RX0 118 yX0_placeOfNextLamp, Cond.instanceMethod yX0_placeOfNextLamp, Cond.selects RX0 yX0_placeOfNextLamp yX0_placeOfNextLamp, Cond.code yX0_placeOfNextLamp cX0_placeOfNextLamp 7 (some .int), Cond.fieldLink RX0 133 "LampHills$Town" "roundSize" "[I", Cond.fieldLink RX0 21 "LampHills$Night" "burns" "[Z", Cond.methodLink RX0 136 yX0_whoGoesTo, Cond.instanceMethod yX0_whoGoesTo, Cond.selects RX0 yX0_whoGoesTo yX0_whoGoesTo]
def wsX0_moveLighters_r2 : List Cond := [Cond.code yX0_whoGoesTo cX0_whoGoesTo 4 (some .int), Cond.methodLink RX0 139 yX1_canReach, Cond.instanceMethod yX1_canReach, Cond.selects RX1 yX1_canReach yX1_canReach, Cond.initialized RX1, Cond.code yX1_canReach cX1_canReach 4 (some .boolean), Cond.fieldLink RX1 32 "LampHills$Town" "lampHeight" "[I", Cond.fieldLink RX1 44 "LampHills$Town" "ladder" "[I", Cond.fieldLink RX1 17 "LampHills$Town" "ways" "[[I", Cond.constant RX1 57 (1000000), Cond.methodLink RX1 84 yX1_nearerEnd, Cond.instanceMethod yX1_nearerEnd, Cond.selects RX1 yX1_nearerEnd yX1_nearerEnd, Cond.code yX1_nearerEnd cX1_nearerEnd 6 (some .int), Cond.fieldLink RX1 29 "LampHills$Town" "lampStreet" "[I", Cond.fieldLink RX1 20 "LampHills$Town" "firstEnd" "[I", Cond.fieldLink RX1 23 "LampHills$Town" "secondEnd" "[I", Cond.methodLink RX0 126 yX1_nearerEnd, Cond.methodLink RX0 114 yX0_tendLamp, Cond.instanceMethod yX0_tendLamp, Cond.selects RX0 yX0_tendLamp yX0_tendLamp, Cond.code yX0_tendLamp cX0_tendLamp 5 (some .boolean), Cond.methodLink RX0 143 Lib.Math.min.name, Cond.static Lib.Math.min.name]
def wsX0_moveLighters_r3 : List Cond := [Cond.initialized "java/lang/Math", Cond.code Lib.Math.min.name Lib.Math.min.code 2 (some .int), Cond.fieldLink RX0 18 "LampHills$Night" "soot" "[I", Cond.fieldLink RX0 9 "LampHills$Night" "burningIn" "[I", Cond.fieldLink RX0 148 "LampHills$Town" "lampStreet" "[I", Cond.fieldLink RX0 25 "LampHills$Night" "timesLit" "[I", Cond.fieldLink RX0 49 "LampHills$Night" "litBy" "[I", Cond.methodLink RX0 100 yX0_waitFromNow, Cond.instanceMethod yX0_waitFromNow, Cond.selects RX0 yX0_waitFromNow yX0_waitFromNow, Cond.code yX0_waitFromNow cX0_waitFromNow 2 none]
def wsX0_moveLighters : List Cond := .code yX0_moveLighters cX0_moveLighters 4 (some .int) :: ((wsX0_moveLighters_r1 ++ (wsX0_moveLighters_r2 ++ wsX0_moveLighters_r3)) ++ wsX10 ++ wsX00)
def wsX0_putOut : List Cond := .code yX0_putOut cX0_putOut 3 none :: ([.fieldLink RX0 21 "LampHills$Night" "burns" "[Z", .fieldLink RX0 9 "LampHills$Night" "burningIn" "[I", .fieldLink RX0 148 "LampHills$Town" "lampStreet" "[I"] ++ wsX00 ++ wsX10)
def wsX0_useOil : List Cond := .code yX0_useOil cX0_useOil 4 none :: ([.fieldLink RX0 15 "LampHills$Night" "oil" "[I", .fieldLink RX0 18 "LampHills$Night" "soot" "[I", .methodLink RX0 143 Lib.Math.min.name, .static Lib.Math.min.name, .initialized "java/lang/Math", .code Lib.Math.min.name Lib.Math.min.code 2 (some .int), .fieldLink RX0 59 "LampHills$Night" "oilUsed" "I", .methodLink RX0 88 yX0_putOut, .instanceMethod yX0_putOut, .selects RX0 yX0_putOut yX0_putOut, .initialized RX0, .code yX0_putOut cX0_putOut 3 none, .fieldLink RX0 21 "LampHills$Night" "burns" "[Z", .fieldLink RX0 9 "LampHills$Night" "burningIn" "[I", .fieldLink RX0 148 "LampHills$Town" "lampStreet" "[I"] ++ wsX00 ++ wsX10)
def wsX0_burnLamps : List Cond := .code yX0_burnLamps cX0_burnLamps 3 none :: ([.fieldLink RX0 85 "LampHills$Town" "lamps" "I", .fieldLink RX0 21 "LampHills$Night" "burns" "[Z", .fieldLink RX0 52 "LampHills$Night" "minute" "I", .fieldLink RX0 18 "LampHills$Night" "soot" "[I", .methodLink RX0 143 Lib.Math.min.name, .static Lib.Math.min.name, .initialized "java/lang/Math", .code Lib.Math.min.name Lib.Math.min.code 2 (some .int), .methodLink RX0 151 yX0_useOil, .instanceMethod yX0_useOil, .selects RX0 yX0_useOil yX0_useOil, .initialized RX0, .code yX0_useOil cX0_useOil 4 none, .fieldLink RX0 15 "LampHills$Night" "oil" "[I", .fieldLink RX0 59 "LampHills$Night" "oilUsed" "I", .methodLink RX0 88 yX0_putOut, .instanceMethod yX0_putOut, .selects RX0 yX0_putOut yX0_putOut, .code yX0_putOut cX0_putOut 3 none, .fieldLink RX0 9 "LampHills$Night" "burningIn" "[I", .fieldLink RX0 148 "LampHills$Town" "lampStreet" "[I"] ++ wsX10 ++ wsX00)
def wsX1_windAtLamp : List Cond := .code yX1_windAtLamp cX1_windAtLamp 4 (some .int) :: ([.fieldLink RX1 29 "LampHills$Town" "lampStreet" "[I", .fieldLink RX1 9 "LampHills$Town" "height" "[I", .fieldLink RX1 20 "LampHills$Town" "firstEnd" "[I", .fieldLink RX1 23 "LampHills$Town" "secondEnd" "[I", .methodLink RX1 75 Lib.Math.max.name, .static Lib.Math.max.name, .initialized "java/lang/Math", .code Lib.Math.max.name Lib.Math.max.code 2 (some .int)] ++ wsX10)
def wsX0_blow : List Cond := .code yX0_blow cX0_blow 4 none :: ([.fieldLink RX0 85 "LampHills$Town" "lamps" "I", .fieldLink RX0 21 "LampHills$Night" "burns" "[Z", .fieldLink RX0 157 "LampHills$Town" "lid" "[I", .fieldLink RX0 28 "LampHills$Night" "timesBlownOut" "[I", .methodLink RX0 154 yX1_windAtLamp, .instanceMethod yX1_windAtLamp, .selects RX1 yX1_windAtLamp yX1_windAtLamp, .initialized RX1, .code yX1_windAtLamp cX1_windAtLamp 4 (some .int), .fieldLink RX1 29 "LampHills$Town" "lampStreet" "[I", .fieldLink RX1 9 "LampHills$Town" "height" "[I", .fieldLink RX1 20 "LampHills$Town" "firstEnd" "[I", .fieldLink RX1 23 "LampHills$Town" "secondEnd" "[I", .methodLink RX1 75 Lib.Math.max.name, .static Lib.Math.max.name, .initialized "java/lang/Math", .code Lib.Math.max.name Lib.Math.max.code 2 (some .int), .methodLink RX0 88 yX0_putOut, .instanceMethod yX0_putOut, .selects RX0 yX0_putOut yX0_putOut, .initialized RX0, .code yX0_putOut cX0_putOut 3 none, .fieldLink RX0 9 "LampHills$Night" "burningIn" "[I", .fieldLink RX0 148 "LampHills$Town" "lampStreet" "[I"] ++ wsX10 ++ wsX00)
def wsX0_goBy_r1 : List Cond := [Cond.fieldLink RX0 52 "LampHills$Night" "minute" "I", Cond.fieldLink RX0 76 "LampHills$Town" "wind" "[I", Cond.methodLink RX0 68 yX0_moveLighters, Cond.instanceMethod yX0_moveLighters, Cond.selects RX0 yX0_moveLighters yX0_moveLighters, Cond.initialized RX0, Cond.code yX0_moveLighters cX0_moveLighters 4 (some .int), Cond.fieldLink RX0 91 "LampHills$Town" "lighters" "I", Cond.fieldLink RX0 37 "LampHills$Night" "goesTo" "[I", Cond.fieldLink RX0 43 "LampHills$Night" "minutesLeft" "[I", Cond.methodLink RX0 111 yX0_lookForLamp, Cond.instanceMethod yX0_lookForLamp, Cond.selects RX0 yX0_lookForLamp yX0_lookForLamp, Cond.code yX0_lookForLamp cX0_lookForLamp 5 none, Cond.fieldLink RX0 122 "LampHills$Town" "rounds" "[[I", Cond.fieldLink RX0 34 "LampHills$Night" "can" "[I", Cond.fieldLink RX0 15 "LampHills$Night" "oil" "[I", Cond.fieldLink RX0 46 "LampHills$Night" "latestPlace" "[I", Cond.fieldLink RX0 40 "LampHills$Night" "goal" "[I", Cond.fieldLink RX0 31 "LampHills$Night" "at" "[I", Cond.fieldLink RX0 130 "LampHills$Town" "ways" "[[I", Cond.methodLink RX0 118 yX0_placeOfNextLamp, Cond.instanceMethod yX0_placeOfNextLamp, Cond.selects RX0 yX0_placeOfNextLamp yX0_placeOfNextLamp]
def wsX0_goBy_r2 : List Cond := [Cond.code yX0_placeOfNextLamp cX0_placeOfNextLamp 7 (some .int), Cond.fieldLink RX0 133 "LampHills$Town" "roundSize" "[I", Cond.fieldLink RX0 21 "LampHills$Night" "burns" "[Z", Cond.methodLink RX0 136 yX0_whoGoesTo, Cond.instanceMethod yX0_whoGoesTo, Cond.selects RX0 yX0_whoGoesTo yX0_whoGoesTo, Cond.code yX0_whoGoesTo cX0_whoGoesTo 4 (some .int), Cond.methodLink RX0 139 yX1_canReach, Cond.instanceMethod yX1_canReach, Cond.selects RX1 yX1_canReach yX1_canReach, Cond.initialized RX1, Cond.code yX1_canReach cX1_canReach 4 (some .boolean), Cond.fieldLink RX1 32 "LampHills$Town" "lampHeight" "[I", Cond.fieldLink RX1 44 "LampHills$Town" "ladder" "[I", Cond.fieldLink RX1 17 "LampHills$Town" "ways" "[[I", Cond.constant RX1 57 (1000000), Cond.methodLink RX1 84 yX1_nearerEnd, Cond.instanceMethod yX1_nearerEnd, Cond.selects RX1 yX1_nearerEnd yX1_nearerEnd, Cond.code yX1_nearerEnd cX1_nearerEnd 6 (some .int), Cond.fieldLink RX1 29 "LampHills$Town" "lampStreet" "[I", Cond.fieldLink RX1 20 "LampHills$Town" "firstEnd" "[I", Cond.fieldLink RX1 23 "LampHills$Town" "secondEnd" "[I", Cond.methodLink RX0 126 yX1_nearerEnd]
def wsX0_goBy_r3 : List Cond := [Cond.methodLink RX0 114 yX0_tendLamp, Cond.instanceMethod yX0_tendLamp, Cond.selects RX0 yX0_tendLamp yX0_tendLamp, Cond.code yX0_tendLamp cX0_tendLamp 5 (some .boolean), Cond.methodLink RX0 143 Lib.Math.min.name, Cond.static Lib.Math.min.name, Cond.initialized "java/lang/Math", Cond.code Lib.Math.min.name Lib.Math.min.code 2 (some .int), Cond.fieldLink RX0 18 "LampHills$Night" "soot" "[I", Cond.fieldLink RX0 9 "LampHills$Night" "burningIn" "[I", Cond.fieldLink RX0 148 "LampHills$Town" "lampStreet" "[I", Cond.fieldLink RX0 25 "LampHills$Night" "timesLit" "[I", Cond.fieldLink RX0 49 "LampHills$Night" "litBy" "[I", Cond.methodLink RX0 100 yX0_waitFromNow, Cond.instanceMethod yX0_waitFromNow, Cond.selects RX0 yX0_waitFromNow yX0_waitFromNow, Cond.code yX0_waitFromNow cX0_waitFromNow 2 none, Cond.methodLink RX0 72 yX0_burnLamps, Cond.instanceMethod yX0_burnLamps, Cond.selects RX0 yX0_burnLamps yX0_burnLamps, Cond.code yX0_burnLamps cX0_burnLamps 3 none, Cond.fieldLink RX0 85 "LampHills$Town" "lamps" "I", Cond.methodLink RX0 151 yX0_useOil, Cond.instanceMethod yX0_useOil]
def wsX0_goBy_r4 : List Cond := [Cond.selects RX0 yX0_useOil yX0_useOil, Cond.code yX0_useOil cX0_useOil 4 none, Cond.fieldLink RX0 59 "LampHills$Night" "oilUsed" "I", Cond.methodLink RX0 88 yX0_putOut, Cond.instanceMethod yX0_putOut, Cond.selects RX0 yX0_putOut yX0_putOut, Cond.code yX0_putOut cX0_putOut 3 none, Cond.methodLink RX0 81 yX0_blow, Cond.instanceMethod yX0_blow, Cond.selects RX0 yX0_blow yX0_blow, Cond.code yX0_blow cX0_blow 4 none, Cond.fieldLink RX0 157 "LampHills$Town" "lid" "[I", Cond.fieldLink RX0 28 "LampHills$Night" "timesBlownOut" "[I", Cond.methodLink RX0 154 yX1_windAtLamp, Cond.instanceMethod yX1_windAtLamp, Cond.selects RX1 yX1_windAtLamp yX1_windAtLamp, Cond.code yX1_windAtLamp cX1_windAtLamp 4 (some .int), Cond.fieldLink RX1 9 "LampHills$Town" "height" "[I", Cond.methodLink RX1 75 Lib.Math.max.name, Cond.static Lib.Math.max.name, Cond.code Lib.Math.max.name Lib.Math.max.code 2 (some .int)]
def wsX0_goBy : List Cond := .code yX0_goBy cX0_goBy 5 (some .int) :: ((wsX0_goBy_r1 ++ (wsX0_goBy_r2 ++ (wsX0_goBy_r3 ++ wsX0_goBy_r4))) ++ wsX00 ++ wsX10)
def wsX0_sendHome : List Cond := .code yX0_sendHome cX0_sendHome 3 none :: ([.fieldLink RX0 31 "LampHills$Night" "at" "[I", .fieldLink RX0 97 "LampHills$Town" "home" "[I", .fieldLink RX0 46 "LampHills$Night" "latestPlace" "[I", .methodLink RX0 100 yX0_waitFromNow, .instanceMethod yX0_waitFromNow, .selects RX0 yX0_waitFromNow yX0_waitFromNow, .initialized RX0, .code yX0_waitFromNow cX0_waitFromNow 2 none, .fieldLink RX0 37 "LampHills$Night" "goesTo" "[I", .fieldLink RX0 43 "LampHills$Night" "minutesLeft" "[I"] ++ wsX00 ++ wsX10)
def wsX0_beginNext_r1 : List Cond := [Cond.fieldLink RX0 52 "LampHills$Night" "minute" "I", Cond.fieldLink RX0 56 "LampHills$Night" "number" "I", Cond.fieldLink RX0 85 "LampHills$Town" "lamps" "I", Cond.fieldLink RX0 21 "LampHills$Night" "burns" "[Z", Cond.fieldLink RX0 91 "LampHills$Town" "lighters" "I", Cond.methodLink RX0 88 yX0_putOut, Cond.instanceMethod yX0_putOut, Cond.selects RX0 yX0_putOut yX0_putOut, Cond.initialized RX0, Cond.code yX0_putOut cX0_putOut 3 none, Cond.fieldLink RX0 9 "LampHills$Night" "burningIn" "[I", Cond.fieldLink RX0 148 "LampHills$Town" "lampStreet" "[I", Cond.methodLink RX0 94 yX0_sendHome, Cond.instanceMethod yX0_sendHome, Cond.selects RX0 yX0_sendHome yX0_sendHome, Cond.code yX0_sendHome cX0_sendHome 3 none, Cond.fieldLink RX0 31 "LampHills$Night" "at" "[I", Cond.fieldLink RX0 97 "LampHills$Town" "home" "[I", Cond.fieldLink RX0 46 "LampHills$Night" "latestPlace" "[I", Cond.methodLink RX0 100 yX0_waitFromNow, Cond.instanceMethod yX0_waitFromNow, Cond.selects RX0 yX0_waitFromNow yX0_waitFromNow, Cond.code yX0_waitFromNow cX0_waitFromNow 2 none, Cond.fieldLink RX0 37 "LampHills$Night" "goesTo" "[I"]
def wsX0_beginNext_r2 : List Cond := [Cond.fieldLink RX0 43 "LampHills$Night" "minutesLeft" "[I"]
def wsX0_beginNext : List Cond := .code yX0_beginNext cX0_beginNext 3 none :: ((wsX0_beginNext_r1 ++ wsX0_beginNext_r2) ++ wsX00 ++ wsX10)
def wsX0_isDark : List Cond := .code yX0_isDark cX0_isDark 2 (some .boolean) :: ([.fieldLink RX0 9 "LampHills$Night" "burningIn" "[I"] ++ wsX00)
def wsX0_burningLamps : List Cond := .code yX0_burningLamps cX0_burningLamps 4 (some .int) :: ([.fieldLink RX0 104 "LampHills$Town" "streets" "I", .fieldLink RX0 9 "LampHills$Night" "burningIn" "[I"] ++ wsX10 ++ wsX00)
def wsX0_darkStreets : List Cond := .code yX0_darkStreets cX0_darkStreets 4 (some .int) :: ([.fieldLink RX0 104 "LampHills$Town" "streets" "I", .methodLink RX0 107 yX0_isDark, .instanceMethod yX0_isDark, .selects RX0 yX0_isDark yX0_isDark, .initialized RX0, .code yX0_isDark cX0_isDark 2 (some .boolean), .fieldLink RX0 9 "LampHills$Night" "burningIn" "[I"] ++ wsX10 ++ wsX00)
def wsX0_oilOfLamps : List Cond := .code yX0_oilOfLamps cX0_oilOfLamps 4 (some .int) :: ([.fieldLink RX0 85 "LampHills$Town" "lamps" "I", .fieldLink RX0 15 "LampHills$Night" "oil" "[I"] ++ wsX10 ++ wsX00)
def wsX1_init : List Cond := .code yX1_init cX1_init 1 none :: ([.methodLink RX1 3 objectInit, .instanceMethod objectInit, .code objectInit ⟨#[0xb1]⟩ 1 none, .arrayClass .int, .fieldLink RX1 9 "LampHills$Town" "height" "[I", .classLink RX1 15 "[[I", .fieldLink RX1 17 "LampHills$Town" "ways" "[[I", .fieldLink RX1 20 "LampHills$Town" "firstEnd" "[I", .fieldLink RX1 23 "LampHills$Town" "secondEnd" "[I", .fieldLink RX1 26 "LampHills$Town" "length" "[I", .fieldLink RX1 29 "LampHills$Town" "lampStreet" "[I", .fieldLink RX1 32 "LampHills$Town" "lampHeight" "[I", .fieldLink RX1 35 "LampHills$Town" "lid" "[I", .fieldLink RX1 38 "LampHills$Town" "wind" "[I", .fieldLink RX1 41 "LampHills$Town" "home" "[I", .fieldLink RX1 44 "LampHills$Town" "ladder" "[I", .fieldLink RX1 47 "LampHills$Town" "roundSize" "[I", .fieldLink RX1 50 "LampHills$Town" "rounds" "[[I"] ++ wsX10)
def wsX1_addCorner : List Cond := .code yX1_addCorner cX1_addCorner 4 (some .int) :: ([.fieldLink RX1 53 "LampHills$Town" "corners" "I", .fieldLink RX1 9 "LampHills$Town" "height" "[I", .fieldLink RX1 17 "LampHills$Town" "ways" "[[I", .constant RX1 57 (1000000)] ++ wsX10)
def wsX1_minutesAlong : List Cond := .code yX1_minutesAlong cX1_minutesAlong 4 (some .int) :: ([.fieldLink RX1 9 "LampHills$Town" "height" "[I", .methodLink RX1 75 Lib.Math.max.name, .static Lib.Math.max.name, .initialized "java/lang/Math", .code Lib.Math.max.name Lib.Math.max.code 2 (some .int)] ++ wsX10)
def wsX1_shortenWays : List Cond := .code yX1_shortenWays cX1_shortenWays 7 none :: ([.fieldLink RX1 53 "LampHills$Town" "corners" "I", .fieldLink RX1 17 "LampHills$Town" "ways" "[[I", .methodLink RX1 81 Lib.Math.min.name, .static Lib.Math.min.name, .initialized "java/lang/Math", .code Lib.Math.min.name Lib.Math.min.code 2 (some .int)] ++ wsX10)
def wsX1_addStreet : List Cond := .code yX1_addStreet cX1_addStreet 5 (some .int) :: ([.fieldLink RX1 58 "LampHills$Town" "streets" "I", .fieldLink RX1 20 "LampHills$Town" "firstEnd" "[I", .fieldLink RX1 23 "LampHills$Town" "secondEnd" "[I", .fieldLink RX1 26 "LampHills$Town" "length" "[I", .methodLink RX1 61 yX1_minutesAlong, .instanceMethod yX1_minutesAlong, .selects RX1 yX1_minutesAlong yX1_minutesAlong, .initialized RX1, .code yX1_minutesAlong cX1_minutesAlong 4 (some .int), .fieldLink RX1 9 "LampHills$Town" "height" "[I", .methodLink RX1 75 Lib.Math.max.name, .static Lib.Math.max.name, .initialized "java/lang/Math", .code Lib.Math.max.name Lib.Math.max.code 2 (some .int), .methodLink RX1 65 yX1_shortenWays, .instanceMethod yX1_shortenWays, .selects RX1 yX1_shortenWays yX1_shortenWays, .code yX1_shortenWays cX1_shortenWays 7 none, .fieldLink RX1 53 "LampHills$Town" "corners" "I", .fieldLink RX1 17 "LampHills$Town" "ways" "[[I", .methodLink RX1 81 Lib.Math.min.name, .static Lib.Math.min.name, .code Lib.Math.min.name Lib.Math.min.code 2 (some .int)] ++ wsX10)
def wsX1_addLamp : List Cond := .code yX1_addLamp cX1_addLamp 4 (some .int) :: ([.fieldLink RX1 69 "LampHills$Town" "lamps" "I", .fieldLink RX1 29 "LampHills$Town" "lampStreet" "[I", .fieldLink RX1 32 "LampHills$Town" "lampHeight" "[I"] ++ wsX10)
def wsX1_addLighter : List Cond := .code yX1_addLighter cX1_addLighter 4 (some .int) :: ([.fieldLink RX1 72 "LampHills$Town" "lighters" "I", .fieldLink RX1 41 "LampHills$Town" "home" "[I", .fieldLink RX1 44 "LampHills$Town" "ladder" "[I"] ++ wsX10)
def wsX1_addToRound : List Cond := .code yX1_addToRound cX1_addToRound 3 (some .int) :: ([.fieldLink RX1 50 "LampHills$Town" "rounds" "[[I", .fieldLink RX1 47 "LampHills$Town" "roundSize" "[I"] ++ wsX10)
def wsX1_isInRound : List Cond := .code yX1_isInRound cX1_isInRound 4 (some .boolean) :: ([.fieldLink RX1 47 "LampHills$Town" "roundSize" "[I", .fieldLink RX1 50 "LampHills$Town" "rounds" "[[I"] ++ wsX10)
def wsX2_init_r1 : List Cond := [Cond.methodLink RX2 3 objectInit, Cond.instanceMethod objectInit, Cond.code objectInit ⟨#[0xb1]⟩ 1 none, Cond.classLink RX2 9 RX1, Cond.instantiable RX1 17, Cond.initialized RX1, Cond.fieldLink RX2 12 "LampHills" "town" "LLampHills$Town;", Cond.classLink RX2 16 RX0, Cond.instantiable RX0 16, Cond.initialized RX0, Cond.fieldLink RX2 19 "LampHills" "night" "LLampHills$Night;", Cond.fieldLink RX2 23 "LampHills" "forecast" "LLampHills$Night;", Cond.arrayClass .int, Cond.fieldLink RX2 26 "LampHills" "darkMinutes" "[I", Cond.instanceMethod yX1_init, Cond.code yX1_init cX1_init 1 none, Cond.methodLink RX1 3 objectInit, Cond.fieldLink RX1 9 "LampHills$Town" "height" "[I", Cond.classLink RX1 15 "[[I", Cond.fieldLink RX1 17 "LampHills$Town" "ways" "[[I", Cond.fieldLink RX1 20 "LampHills$Town" "firstEnd" "[I", Cond.fieldLink RX1 23 "LampHills$Town" "secondEnd" "[I", Cond.fieldLink RX1 26 "LampHills$Town" "length" "[I", Cond.fieldLink RX1 29 "LampHills$Town" "lampStreet" "[I"]
def wsX2_init_r2 : List Cond := [Cond.fieldLink RX1 32 "LampHills$Town" "lampHeight" "[I", Cond.fieldLink RX1 35 "LampHills$Town" "lid" "[I", Cond.fieldLink RX1 38 "LampHills$Town" "wind" "[I", Cond.fieldLink RX1 41 "LampHills$Town" "home" "[I", Cond.fieldLink RX1 44 "LampHills$Town" "ladder" "[I", Cond.fieldLink RX1 47 "LampHills$Town" "roundSize" "[I", Cond.fieldLink RX1 50 "LampHills$Town" "rounds" "[[I", Cond.instanceMethod yX0_init, Cond.code yX0_init cX0_init 1 none, Cond.methodLink RX0 3 objectInit, Cond.fieldLink RX0 9 "LampHills$Night" "burningIn" "[I", Cond.fieldLink RX0 15 "LampHills$Night" "oil" "[I", Cond.fieldLink RX0 18 "LampHills$Night" "soot" "[I", Cond.arrayClass .boolean, Cond.fieldLink RX0 21 "LampHills$Night" "burns" "[Z", Cond.fieldLink RX0 25 "LampHills$Night" "timesLit" "[I", Cond.fieldLink RX0 28 "LampHills$Night" "timesBlownOut" "[I", Cond.fieldLink RX0 31 "LampHills$Night" "at" "[I", Cond.fieldLink RX0 34 "LampHills$Night" "can" "[I", Cond.fieldLink RX0 37 "LampHills$Night" "goesTo" "[I", Cond.fieldLink RX0 40 "LampHills$Night" "goal" "[I", Cond.fieldLink RX0 43 "LampHills$Night" "minutesLeft" "[I", Cond.fieldLink RX0 46 "LampHills$Night" "latestPlace" "[I", Cond.fieldLink RX0 49 "LampHills$Night" "litBy" "[I"]
def wsX2_init : List Cond := .code yX2_init cX2_init 1 none :: ((wsX2_init_r1 ++ wsX2_init_r2) ++ wsX10 ++ wsX20 ++ wsX00)
def wsX2_requireRange : List Cond := .code yX2_requireRange cX2_requireRange 3 none :: ([.classLink RX2 49 "java/lang/IllegalArgumentException", .initialized "java/lang/IllegalArgumentException"] ++ (vx_atS RX2 53 "java/lang/IllegalArgumentException" ["java/lang/RuntimeException", "java/lang/Exception"]).filter goodWord)
def wsX2_requireRoom : List Cond := .code yX2_requireRoom cX2_requireRoom 2 none :: ([.classLink RX2 93 "java/lang/IllegalStateException", .initialized "java/lang/IllegalStateException"] ++ (vx_atS RX2 97 "java/lang/IllegalStateException" ["java/lang/RuntimeException", "java/lang/Exception"]).filter goodWord)
def wsX2_corner : List Cond := .code yX2_corner cX2_corner 2 (some .int) :: ([.fieldLink RX2 12 "LampHills" "town" "LLampHills$Town;", .fieldLink RX2 34 "LampHills$Town" "corners" "I", .methodLink RX2 30 yX2_requireRange, .static yX2_requireRange, .initialized RX2, .code yX2_requireRange cX2_requireRange 3 none, .classLink RX2 49 "java/lang/IllegalArgumentException", .initialized "java/lang/IllegalArgumentException", .methodLink RX2 38 yX2_requireRoom, .static yX2_requireRoom, .code yX2_requireRoom cX2_requireRoom 2 none, .classLink RX2 93 "java/lang/IllegalStateException", .initialized "java/lang/IllegalStateException", .methodLink RX2 42 yX1_addCorner, .instanceMethod yX1_addCorner, .selects RX1 yX1_addCorner yX1_addCorner, .initialized RX1, .code yX1_addCorner cX1_addCorner 4 (some .int), .fieldLink RX1 53 "LampHills$Town" "corners" "I", .fieldLink RX1 9 "LampHills$Town" "height" "[I", .fieldLink RX1 17 "LampHills$Town" "ways" "[[I", .constant RX1 57 (1000000)] ++ wsX20 ++ wsX10 ++ (vx_atS RX2 53 "java/lang/IllegalArgumentException" ["java/lang/RuntimeException", "java/lang/Exception"]).filter goodWord ++ (vx_atS RX2 97 "java/lang/IllegalStateException" ["java/lang/RuntimeException", "java/lang/Exception"]).filter goodWord)
def wsX2_requireIndex : List Cond := .code yX2_requireIndex cX2_requireIndex 2 none :: ([.classLink RX2 223 "java/lang/IndexOutOfBoundsException", .initialized "java/lang/IndexOutOfBoundsException"] ++ (vx_atS RX2 227 "java/lang/IndexOutOfBoundsException" ["java/lang/RuntimeException", "java/lang/Exception"]).filter goodWord)
def wsX2_street_r1 : List Cond := [Cond.classLink RX2 49 "java/lang/IllegalArgumentException", Cond.initialized "java/lang/IllegalArgumentException", Cond.fieldLink RX2 12 "LampHills" "town" "LLampHills$Town;", Cond.fieldLink RX2 34 "LampHills$Town" "corners" "I", Cond.fieldLink RX2 56 "LampHills$Town" "streets" "I", Cond.methodLink RX2 46 yX2_requireIndex, Cond.static yX2_requireIndex, Cond.initialized RX2, Cond.code yX2_requireIndex cX2_requireIndex 2 none, Cond.classLink RX2 223 "java/lang/IndexOutOfBoundsException", Cond.initialized "java/lang/IndexOutOfBoundsException", Cond.methodLink RX2 30 yX2_requireRange, Cond.static yX2_requireRange, Cond.code yX2_requireRange cX2_requireRange 3 none, Cond.methodLink RX2 38 yX2_requireRoom, Cond.static yX2_requireRoom, Cond.code yX2_requireRoom cX2_requireRoom 2 none, Cond.classLink RX2 93 "java/lang/IllegalStateException", Cond.initialized "java/lang/IllegalStateException", Cond.methodLink RX2 59 yX1_addStreet, Cond.instanceMethod yX1_addStreet, Cond.selects RX1 yX1_addStreet yX1_addStreet, Cond.initialized RX1, Cond.code yX1_addStreet cX1_addStreet 5 (some .int)]
def wsX2_street_r2 : List Cond := [Cond.fieldLink RX1 58 "LampHills$Town" "streets" "I", Cond.fieldLink RX1 20 "LampHills$Town" "firstEnd" "[I", Cond.fieldLink RX1 23 "LampHills$Town" "secondEnd" "[I", Cond.fieldLink RX1 26 "LampHills$Town" "length" "[I", Cond.methodLink RX1 61 yX1_minutesAlong, Cond.instanceMethod yX1_minutesAlong, Cond.selects RX1 yX1_minutesAlong yX1_minutesAlong, Cond.code yX1_minutesAlong cX1_minutesAlong 4 (some .int), Cond.fieldLink RX1 9 "LampHills$Town" "height" "[I", Cond.methodLink RX1 75 Lib.Math.max.name, Cond.static Lib.Math.max.name, Cond.initialized "java/lang/Math", Cond.code Lib.Math.max.name Lib.Math.max.code 2 (some .int), Cond.methodLink RX1 65 yX1_shortenWays, Cond.instanceMethod yX1_shortenWays, Cond.selects RX1 yX1_shortenWays yX1_shortenWays, Cond.code yX1_shortenWays cX1_shortenWays 7 none, Cond.fieldLink RX1 53 "LampHills$Town" "corners" "I", Cond.fieldLink RX1 17 "LampHills$Town" "ways" "[[I", Cond.methodLink RX1 81 Lib.Math.min.name, Cond.static Lib.Math.min.name, Cond.code Lib.Math.min.name Lib.Math.min.code 2 (some .int)]
def wsX2_street : List Cond := .code yX2_street cX2_street 4 (some .int) :: ((wsX2_street_r1 ++ wsX2_street_r2) ++ wsX20 ++ wsX10 ++ (vx_atS RX2 53 "java/lang/IllegalArgumentException" ["java/lang/RuntimeException", "java/lang/Exception"]).filter goodWord ++ (vx_atS RX2 227 "java/lang/IndexOutOfBoundsException" ["java/lang/RuntimeException", "java/lang/Exception"]).filter goodWord ++ (vx_atS RX2 97 "java/lang/IllegalStateException" ["java/lang/RuntimeException", "java/lang/Exception"]).filter goodWord)
def wsX2_lamp_r1 : List Cond := [Cond.fieldLink RX2 12 "LampHills" "town" "LLampHills$Town;", Cond.fieldLink RX2 56 "LampHills$Town" "streets" "I", Cond.fieldLink RX2 63 "LampHills$Town" "lamps" "I", Cond.methodLink RX2 46 yX2_requireIndex, Cond.static yX2_requireIndex, Cond.initialized RX2, Cond.code yX2_requireIndex cX2_requireIndex 2 none, Cond.classLink RX2 223 "java/lang/IndexOutOfBoundsException", Cond.initialized "java/lang/IndexOutOfBoundsException", Cond.methodLink RX2 30 yX2_requireRange, Cond.static yX2_requireRange, Cond.code yX2_requireRange cX2_requireRange 3 none, Cond.classLink RX2 49 "java/lang/IllegalArgumentException", Cond.initialized "java/lang/IllegalArgumentException", Cond.methodLink RX2 38 yX2_requireRoom, Cond.static yX2_requireRoom, Cond.code yX2_requireRoom cX2_requireRoom 2 none, Cond.classLink RX2 93 "java/lang/IllegalStateException", Cond.initialized "java/lang/IllegalStateException", Cond.methodLink RX2 66 yX1_addLamp, Cond.instanceMethod yX1_addLamp, Cond.selects RX1 yX1_addLamp yX1_addLamp, Cond.initialized RX1, Cond.code yX1_addLamp cX1_addLamp 4 (some .int)]
def wsX2_lamp_r2 : List Cond := [Cond.fieldLink RX1 69 "LampHills$Town" "lamps" "I", Cond.fieldLink RX1 29 "LampHills$Town" "lampStreet" "[I", Cond.fieldLink RX1 32 "LampHills$Town" "lampHeight" "[I"]
def wsX2_lamp : List Cond := .code yX2_lamp cX2_lamp 3 (some .int) :: ((wsX2_lamp_r1 ++ wsX2_lamp_r2) ++ wsX20 ++ wsX10 ++ (vx_atS RX2 227 "java/lang/IndexOutOfBoundsException" ["java/lang/RuntimeException", "java/lang/Exception"]).filter goodWord ++ (vx_atS RX2 53 "java/lang/IllegalArgumentException" ["java/lang/RuntimeException", "java/lang/Exception"]).filter goodWord ++ (vx_atS RX2 97 "java/lang/IllegalStateException" ["java/lang/RuntimeException", "java/lang/Exception"]).filter goodWord)
def wsX2_lid : List Cond := .code yX2_lid cX2_lid 4 (some .int) :: ([.fieldLink RX2 12 "LampHills" "town" "LLampHills$Town;", .fieldLink RX2 63 "LampHills$Town" "lamps" "I", .fieldLink RX2 70 "LampHills$Town" "lid" "[I", .methodLink RX2 46 yX2_requireIndex, .static yX2_requireIndex, .initialized RX2, .code yX2_requireIndex cX2_requireIndex 2 none, .classLink RX2 223 "java/lang/IndexOutOfBoundsException", .initialized "java/lang/IndexOutOfBoundsException", .methodLink RX2 30 yX2_requireRange, .static yX2_requireRange, .code yX2_requireRange cX2_requireRange 3 none, .classLink RX2 49 "java/lang/IllegalArgumentException", .initialized "java/lang/IllegalArgumentException"] ++ wsX20 ++ wsX10 ++ (vx_atS RX2 227 "java/lang/IndexOutOfBoundsException" ["java/lang/RuntimeException", "java/lang/Exception"]).filter goodWord ++ (vx_atS RX2 53 "java/lang/IllegalArgumentException" ["java/lang/RuntimeException", "java/lang/Exception"]).filter goodWord)
def wsX2_setWind : List Cond := .code yX2_setWind cX2_setWind 4 (some .int) :: ([.fieldLink RX2 12 "LampHills" "town" "LLampHills$Town;", .fieldLink RX2 73 "LampHills$Town" "wind" "[I", .methodLink RX2 46 yX2_requireIndex, .static yX2_requireIndex, .initialized RX2, .code yX2_requireIndex cX2_requireIndex 2 none, .classLink RX2 223 "java/lang/IndexOutOfBoundsException", .initialized "java/lang/IndexOutOfBoundsException", .methodLink RX2 30 yX2_requireRange, .static yX2_requireRange, .code yX2_requireRange cX2_requireRange 3 none, .classLink RX2 49 "java/lang/IllegalArgumentException", .initialized "java/lang/IllegalArgumentException"] ++ wsX20 ++ wsX10 ++ (vx_atS RX2 227 "java/lang/IndexOutOfBoundsException" ["java/lang/RuntimeException", "java/lang/Exception"]).filter goodWord ++ (vx_atS RX2 53 "java/lang/IllegalArgumentException" ["java/lang/RuntimeException", "java/lang/Exception"]).filter goodWord)
def wsX2_hire_r1 : List Cond := [Cond.fieldLink RX2 12 "LampHills" "town" "LLampHills$Town;", Cond.fieldLink RX2 34 "LampHills$Town" "corners" "I", Cond.fieldLink RX2 76 "LampHills$Town" "lighters" "I", Cond.fieldLink RX2 19 "LampHills" "night" "LLampHills$Night;", Cond.fieldLink RX2 82 "LampHills$Night" "can" "[I", Cond.methodLink RX2 46 yX2_requireIndex, Cond.static yX2_requireIndex, Cond.initialized RX2, Cond.code yX2_requireIndex cX2_requireIndex 2 none, Cond.classLink RX2 223 "java/lang/IndexOutOfBoundsException", Cond.initialized "java/lang/IndexOutOfBoundsException", Cond.methodLink RX2 30 yX2_requireRange, Cond.static yX2_requireRange, Cond.code yX2_requireRange cX2_requireRange 3 none, Cond.classLink RX2 49 "java/lang/IllegalArgumentException", Cond.initialized "java/lang/IllegalArgumentException", Cond.methodLink RX2 38 yX2_requireRoom, Cond.static yX2_requireRoom, Cond.code yX2_requireRoom cX2_requireRoom 2 none, Cond.classLink RX2 93 "java/lang/IllegalStateException", Cond.initialized "java/lang/IllegalStateException", Cond.methodLink RX2 79 yX1_addLighter, Cond.instanceMethod yX1_addLighter, Cond.selects RX1 yX1_addLighter yX1_addLighter]
def wsX2_hire_r2 : List Cond := [Cond.initialized RX1, Cond.code yX1_addLighter cX1_addLighter 4 (some .int), Cond.fieldLink RX1 72 "LampHills$Town" "lighters" "I", Cond.fieldLink RX1 41 "LampHills$Town" "home" "[I", Cond.fieldLink RX1 44 "LampHills$Town" "ladder" "[I", Cond.methodLink RX2 85 yX0_sendHome, Cond.instanceMethod yX0_sendHome, Cond.selects RX0 yX0_sendHome yX0_sendHome, Cond.initialized RX0, Cond.code yX0_sendHome cX0_sendHome 3 none, Cond.fieldLink RX0 31 "LampHills$Night" "at" "[I", Cond.fieldLink RX0 97 "LampHills$Town" "home" "[I", Cond.fieldLink RX0 46 "LampHills$Night" "latestPlace" "[I", Cond.methodLink RX0 100 yX0_waitFromNow, Cond.instanceMethod yX0_waitFromNow, Cond.selects RX0 yX0_waitFromNow yX0_waitFromNow, Cond.code yX0_waitFromNow cX0_waitFromNow 2 none, Cond.fieldLink RX0 37 "LampHills$Night" "goesTo" "[I", Cond.fieldLink RX0 43 "LampHills$Night" "minutesLeft" "[I"]
def wsX2_hire : List Cond := .code yX2_hire cX2_hire 5 (some .int) :: ((wsX2_hire_r1 ++ wsX2_hire_r2) ++ wsX20 ++ wsX10 ++ wsX00 ++ (vx_atS RX2 227 "java/lang/IndexOutOfBoundsException" ["java/lang/RuntimeException", "java/lang/Exception"]).filter goodWord ++ (vx_atS RX2 53 "java/lang/IllegalArgumentException" ["java/lang/RuntimeException", "java/lang/Exception"]).filter goodWord ++ (vx_atS RX2 97 "java/lang/IllegalStateException" ["java/lang/RuntimeException", "java/lang/Exception"]).filter goodWord)
def wsX2_round_r1 : List Cond := [Cond.classLink RX2 93 "java/lang/IllegalStateException", Cond.initialized "java/lang/IllegalStateException", Cond.fieldLink RX2 12 "LampHills" "town" "LLampHills$Town;", Cond.fieldLink RX2 76 "LampHills$Town" "lighters" "I", Cond.fieldLink RX2 63 "LampHills$Town" "lamps" "I", Cond.fieldLink RX2 98 "LampHills$Town" "roundSize" "[I", Cond.methodLink RX2 46 yX2_requireIndex, Cond.static yX2_requireIndex, Cond.initialized RX2, Cond.code yX2_requireIndex cX2_requireIndex 2 none, Cond.classLink RX2 223 "java/lang/IndexOutOfBoundsException", Cond.initialized "java/lang/IndexOutOfBoundsException", Cond.methodLink RX2 89 yX1_isInRound, Cond.instanceMethod yX1_isInRound, Cond.selects RX1 yX1_isInRound yX1_isInRound, Cond.initialized RX1, Cond.code yX1_isInRound cX1_isInRound 4 (some .boolean), Cond.fieldLink RX1 47 "LampHills$Town" "roundSize" "[I", Cond.fieldLink RX1 50 "LampHills$Town" "rounds" "[[I", Cond.methodLink RX2 38 yX2_requireRoom, Cond.static yX2_requireRoom, Cond.code yX2_requireRoom cX2_requireRoom 2 none, Cond.methodLink RX2 101 yX1_addToRound, Cond.instanceMethod yX1_addToRound]
def wsX2_round_r2 : List Cond := [Cond.selects RX1 yX1_addToRound yX1_addToRound, Cond.code yX1_addToRound cX1_addToRound 3 (some .int)]
def wsX2_round : List Cond := .code yX2_round cX2_round 3 (some .int) :: ((wsX2_round_r1 ++ wsX2_round_r2) ++ wsX20 ++ wsX10 ++ (vx_atS RX2 97 "java/lang/IllegalStateException" ["java/lang/RuntimeException", "java/lang/Exception"]).filter goodWord ++ (vx_atS RX2 227 "java/lang/IndexOutOfBoundsException" ["java/lang/RuntimeException", "java/lang/Exception"]).filter goodWord)
def wsX2_fill : List Cond := .code yX2_fill cX2_fill 3 (some .int) :: ([.fieldLink RX2 12 "LampHills" "town" "LLampHills$Town;", .fieldLink RX2 76 "LampHills$Town" "lighters" "I", .fieldLink RX2 19 "LampHills" "night" "LLampHills$Night;", .fieldLink RX2 82 "LampHills$Night" "can" "[I", .methodLink RX2 104 Lib.Math.min.name, .static Lib.Math.min.name, .initialized "java/lang/Math", .code Lib.Math.min.name Lib.Math.min.code 2 (some .int), .methodLink RX2 46 yX2_requireIndex, .static yX2_requireIndex, .initialized RX2, .code yX2_requireIndex cX2_requireIndex 2 none, .classLink RX2 223 "java/lang/IndexOutOfBoundsException", .initialized "java/lang/IndexOutOfBoundsException", .methodLink RX2 30 yX2_requireRange, .static yX2_requireRange, .code yX2_requireRange cX2_requireRange 3 none, .classLink RX2 49 "java/lang/IllegalArgumentException", .initialized "java/lang/IllegalArgumentException"] ++ wsX20 ++ wsX10 ++ wsX00 ++ (vx_atS RX2 227 "java/lang/IndexOutOfBoundsException" ["java/lang/RuntimeException", "java/lang/Exception"]).filter goodWord ++ (vx_atS RX2 53 "java/lang/IllegalArgumentException" ["java/lang/RuntimeException", "java/lang/Exception"]).filter goodWord)
def wsX2_way : List Cond := .code yX2_way cX2_way 4 (some .int) :: ([.fieldLink RX2 12 "LampHills" "town" "LLampHills$Town;", .fieldLink RX2 34 "LampHills$Town" "corners" "I", .fieldLink RX2 109 "LampHills$Town" "ways" "[[I", .constant RX2 113 (1000000), .methodLink RX2 46 yX2_requireIndex, .static yX2_requireIndex, .initialized RX2, .code yX2_requireIndex cX2_requireIndex 2 none, .classLink RX2 223 "java/lang/IndexOutOfBoundsException", .initialized "java/lang/IndexOutOfBoundsException"] ++ wsX20 ++ wsX10 ++ (vx_atS RX2 227 "java/lang/IndexOutOfBoundsException" ["java/lang/RuntimeException", "java/lang/Exception"]).filter goodWord)
def wsX2_told : List Cond := .code yX2_told cX2_told 3 (some .int) :: ([.fieldLink RX2 12 "LampHills" "town" "LLampHills$Town;", .fieldLink RX2 63 "LampHills$Town" "lamps" "I", .fieldLink RX2 114 "LampHills$Town" "lampStreet" "[I", .fieldLink RX2 117 "LampHills$Town" "lampHeight" "[I", .fieldLink RX2 70 "LampHills$Town" "lid" "[I", .fieldLink RX2 19 "LampHills" "night" "LLampHills$Night;", .fieldLink RX2 120 "LampHills$Night" "oil" "[I", .fieldLink RX2 123 "LampHills$Night" "soot" "[I", .fieldLink RX2 126 "LampHills$Night" "burns" "[Z", .fieldLink RX2 134 "LampHills$Night" "timesLit" "[I", .fieldLink RX2 137 "LampHills$Night" "timesBlownOut" "[I", .methodLink RX2 46 yX2_requireIndex, .static yX2_requireIndex, .initialized RX2, .code yX2_requireIndex cX2_requireIndex 2 none, .classLink RX2 223 "java/lang/IndexOutOfBoundsException", .initialized "java/lang/IndexOutOfBoundsException", .methodLink RX2 130 yX0_whoGoesTo, .instanceMethod yX0_whoGoesTo, .selects RX0 yX0_whoGoesTo yX0_whoGoesTo, .initialized RX0, .code yX0_whoGoesTo cX0_whoGoesTo 4 (some .int), .fieldLink RX0 91 "LampHills$Town" "lighters" "I", .fieldLink RX0 37 "LampHills$Night" "goesTo" "[I"] ++ wsX20 ++ wsX10 ++ wsX00 ++ (vx_atS RX2 227 "java/lang/IndexOutOfBoundsException" ["java/lang/RuntimeException", "java/lang/Exception"]).filter goodWord)
def wsX2_lighter : List Cond := .code yX2_lighter cX2_lighter 3 (some .int) :: ([.fieldLink RX2 12 "LampHills" "town" "LLampHills$Town;", .fieldLink RX2 76 "LampHills$Town" "lighters" "I", .fieldLink RX2 19 "LampHills" "night" "LLampHills$Night;", .fieldLink RX2 140 "LampHills$Night" "at" "[I", .fieldLink RX2 143 "LampHills$Town" "ladder" "[I", .fieldLink RX2 82 "LampHills$Night" "can" "[I", .fieldLink RX2 98 "LampHills$Town" "roundSize" "[I", .fieldLink RX2 146 "LampHills$Night" "goesTo" "[I", .fieldLink RX2 149 "LampHills$Night" "minutesLeft" "[I", .fieldLink RX2 152 "LampHills$Night" "litBy" "[I", .methodLink RX2 46 yX2_requireIndex, .static yX2_requireIndex, .initialized RX2, .code yX2_requireIndex cX2_requireIndex 2 none, .classLink RX2 223 "java/lang/IndexOutOfBoundsException", .initialized "java/lang/IndexOutOfBoundsException"] ++ wsX20 ++ wsX10 ++ wsX00 ++ (vx_atS RX2 227 "java/lang/IndexOutOfBoundsException" ["java/lang/RuntimeException", "java/lang/Exception"]).filter goodWord)
def wsX2_burning : List Cond := .code yX2_burning cX2_burning 2 (some .int) :: ([.fieldLink RX2 12 "LampHills" "town" "LLampHills$Town;", .fieldLink RX2 56 "LampHills$Town" "streets" "I", .fieldLink RX2 19 "LampHills" "night" "LLampHills$Night;", .fieldLink RX2 155 "LampHills$Night" "burningIn" "[I", .methodLink RX2 46 yX2_requireIndex, .static yX2_requireIndex, .initialized RX2, .code yX2_requireIndex cX2_requireIndex 2 none, .classLink RX2 223 "java/lang/IndexOutOfBoundsException", .initialized "java/lang/IndexOutOfBoundsException"] ++ wsX20 ++ wsX10 ++ wsX00 ++ (vx_atS RX2 227 "java/lang/IndexOutOfBoundsException" ["java/lang/RuntimeException", "java/lang/Exception"]).filter goodWord)
def wsX2_count_r1 : List Cond := [Cond.fieldLink RX2 19 "LampHills" "night" "LLampHills$Night;", Cond.fieldLink RX2 158 "LampHills$Night" "minute" "I", Cond.fieldLink RX2 161 "LampHills$Night" "number" "I", Cond.fieldLink RX2 12 "LampHills" "town" "LLampHills$Town;", Cond.fieldLink RX2 34 "LampHills$Town" "corners" "I", Cond.fieldLink RX2 56 "LampHills$Town" "streets" "I", Cond.fieldLink RX2 63 "LampHills$Town" "lamps" "I", Cond.fieldLink RX2 76 "LampHills$Town" "lighters" "I", Cond.fieldLink RX2 174 "LampHills$Night" "oilUsed" "I", Cond.methodLink RX2 46 yX2_requireIndex, Cond.static yX2_requireIndex, Cond.initialized RX2, Cond.code yX2_requireIndex cX2_requireIndex 2 none, Cond.classLink RX2 223 "java/lang/IndexOutOfBoundsException", Cond.initialized "java/lang/IndexOutOfBoundsException", Cond.methodLink RX2 164 yX0_burningLamps, Cond.instanceMethod yX0_burningLamps, Cond.selects RX0 yX0_burningLamps yX0_burningLamps, Cond.initialized RX0, Cond.code yX0_burningLamps cX0_burningLamps 4 (some .int), Cond.fieldLink RX0 104 "LampHills$Town" "streets" "I", Cond.fieldLink RX0 9 "LampHills$Night" "burningIn" "[I", Cond.methodLink RX2 168 yX0_darkStreets, Cond.instanceMethod yX0_darkStreets]
def wsX2_count_r2 : List Cond := [Cond.selects RX0 yX0_darkStreets yX0_darkStreets, Cond.code yX0_darkStreets cX0_darkStreets 4 (some .int), Cond.methodLink RX0 107 yX0_isDark, Cond.instanceMethod yX0_isDark, Cond.selects RX0 yX0_isDark yX0_isDark, Cond.code yX0_isDark cX0_isDark 2 (some .boolean), Cond.methodLink RX2 171 yX0_oilOfLamps, Cond.instanceMethod yX0_oilOfLamps, Cond.selects RX0 yX0_oilOfLamps yX0_oilOfLamps, Cond.code yX0_oilOfLamps cX0_oilOfLamps 4 (some .int), Cond.fieldLink RX0 85 "LampHills$Town" "lamps" "I", Cond.fieldLink RX0 15 "LampHills$Night" "oil" "[I"]
def wsX2_count : List Cond := .code yX2_count cX2_count 2 (some .int) :: ((wsX2_count_r1 ++ wsX2_count_r2) ++ wsX20 ++ wsX00 ++ wsX10 ++ (vx_atS RX2 227 "java/lang/IndexOutOfBoundsException" ["java/lang/RuntimeException", "java/lang/Exception"]).filter goodWord)
def wsX2_pass_r1 : List Cond := [Cond.fieldLink RX2 19 "LampHills" "night" "LLampHills$Night;", Cond.fieldLink RX2 12 "LampHills" "town" "LLampHills$Town;", Cond.methodLink RX2 30 yX2_requireRange, Cond.static yX2_requireRange, Cond.initialized RX2, Cond.code yX2_requireRange cX2_requireRange 3 none, Cond.classLink RX2 49 "java/lang/IllegalArgumentException", Cond.initialized "java/lang/IllegalArgumentException", Cond.methodLink RX2 177 yX0_goBy, Cond.instanceMethod yX0_goBy, Cond.selects RX0 yX0_goBy yX0_goBy, Cond.initialized RX0, Cond.code yX0_goBy cX0_goBy 5 (some .int), Cond.fieldLink RX0 52 "LampHills$Night" "minute" "I", Cond.fieldLink RX0 76 "LampHills$Town" "wind" "[I", Cond.methodLink RX0 68 yX0_moveLighters, Cond.instanceMethod yX0_moveLighters, Cond.selects RX0 yX0_moveLighters yX0_moveLighters, Cond.code yX0_moveLighters cX0_moveLighters 4 (some .int), Cond.fieldLink RX0 91 "LampHills$Town" "lighters" "I", Cond.fieldLink RX0 37 "LampHills$Night" "goesTo" "[I", Cond.fieldLink RX0 43 "LampHills$Night" "minutesLeft" "[I", Cond.methodLink RX0 111 yX0_lookForLamp, Cond.instanceMethod yX0_lookForLamp]
def wsX2_pass_r2 : List Cond := [Cond.selects RX0 yX0_lookForLamp yX0_lookForLamp, Cond.code yX0_lookForLamp cX0_lookForLamp 5 none, Cond.fieldLink RX0 122 "LampHills$Town" "rounds" "[[I", Cond.fieldLink RX0 34 "LampHills$Night" "can" "[I", Cond.fieldLink RX0 15 "LampHills$Night" "oil" "[I", Cond.fieldLink RX0 46 "LampHills$Night" "latestPlace" "[I", Cond.fieldLink RX0 40 "LampHills$Night" "goal" "[I", Cond.fieldLink RX0 31 "LampHills$Night" "at" "[I", Cond.fieldLink RX0 130 "LampHills$Town" "ways" "[[I", Cond.methodLink RX0 118 yX0_placeOfNextLamp, Cond.instanceMethod yX0_placeOfNextLamp, Cond.selects RX0 yX0_placeOfNextLamp yX0_placeOfNextLamp, Cond.code yX0_placeOfNextLamp cX0_placeOfNextLamp 7 (some .int), Cond.fieldLink RX0 133 "LampHills$Town" "roundSize" "[I", Cond.fieldLink RX0 21 "LampHills$Night" "burns" "[Z", Cond.methodLink RX0 136 yX0_whoGoesTo, Cond.instanceMethod yX0_whoGoesTo, Cond.selects RX0 yX0_whoGoesTo yX0_whoGoesTo, Cond.code yX0_whoGoesTo cX0_whoGoesTo 4 (some .int), Cond.methodLink RX0 139 yX1_canReach, Cond.instanceMethod yX1_canReach, Cond.selects RX1 yX1_canReach yX1_canReach, Cond.initialized RX1, Cond.code yX1_canReach cX1_canReach 4 (some .boolean)]
def wsX2_pass_r3 : List Cond := [Cond.fieldLink RX1 32 "LampHills$Town" "lampHeight" "[I", Cond.fieldLink RX1 44 "LampHills$Town" "ladder" "[I", Cond.fieldLink RX1 17 "LampHills$Town" "ways" "[[I", Cond.constant RX1 57 (1000000), Cond.methodLink RX1 84 yX1_nearerEnd, Cond.instanceMethod yX1_nearerEnd, Cond.selects RX1 yX1_nearerEnd yX1_nearerEnd, Cond.code yX1_nearerEnd cX1_nearerEnd 6 (some .int), Cond.fieldLink RX1 29 "LampHills$Town" "lampStreet" "[I", Cond.fieldLink RX1 20 "LampHills$Town" "firstEnd" "[I", Cond.fieldLink RX1 23 "LampHills$Town" "secondEnd" "[I", Cond.methodLink RX0 126 yX1_nearerEnd, Cond.methodLink RX0 114 yX0_tendLamp, Cond.instanceMethod yX0_tendLamp, Cond.selects RX0 yX0_tendLamp yX0_tendLamp, Cond.code yX0_tendLamp cX0_tendLamp 5 (some .boolean), Cond.methodLink RX0 143 Lib.Math.min.name, Cond.static Lib.Math.min.name, Cond.initialized "java/lang/Math", Cond.code Lib.Math.min.name Lib.Math.min.code 2 (some .int), Cond.fieldLink RX0 18 "LampHills$Night" "soot" "[I", Cond.fieldLink RX0 9 "LampHills$Night" "burningIn" "[I", Cond.fieldLink RX0 148 "LampHills$Town" "lampStreet" "[I", Cond.fieldLink RX0 25 "LampHills$Night" "timesLit" "[I"]
def wsX2_pass_r4 : List Cond := [Cond.fieldLink RX0 49 "LampHills$Night" "litBy" "[I", Cond.methodLink RX0 100 yX0_waitFromNow, Cond.instanceMethod yX0_waitFromNow, Cond.selects RX0 yX0_waitFromNow yX0_waitFromNow, Cond.code yX0_waitFromNow cX0_waitFromNow 2 none, Cond.methodLink RX0 72 yX0_burnLamps, Cond.instanceMethod yX0_burnLamps, Cond.selects RX0 yX0_burnLamps yX0_burnLamps, Cond.code yX0_burnLamps cX0_burnLamps 3 none, Cond.fieldLink RX0 85 "LampHills$Town" "lamps" "I", Cond.methodLink RX0 151 yX0_useOil, Cond.instanceMethod yX0_useOil, Cond.selects RX0 yX0_useOil yX0_useOil, Cond.code yX0_useOil cX0_useOil 4 none, Cond.fieldLink RX0 59 "LampHills$Night" "oilUsed" "I", Cond.methodLink RX0 88 yX0_putOut, Cond.instanceMethod yX0_putOut, Cond.selects RX0 yX0_putOut yX0_putOut, Cond.code yX0_putOut cX0_putOut 3 none, Cond.methodLink RX0 81 yX0_blow, Cond.instanceMethod yX0_blow, Cond.selects RX0 yX0_blow yX0_blow, Cond.code yX0_blow cX0_blow 4 none, Cond.fieldLink RX0 157 "LampHills$Town" "lid" "[I"]
def wsX2_pass_r5 : List Cond := [Cond.fieldLink RX0 28 "LampHills$Night" "timesBlownOut" "[I", Cond.methodLink RX0 154 yX1_windAtLamp, Cond.instanceMethod yX1_windAtLamp, Cond.selects RX1 yX1_windAtLamp yX1_windAtLamp, Cond.code yX1_windAtLamp cX1_windAtLamp 4 (some .int), Cond.fieldLink RX1 9 "LampHills$Town" "height" "[I", Cond.methodLink RX1 75 Lib.Math.max.name, Cond.static Lib.Math.max.name, Cond.code Lib.Math.max.name Lib.Math.max.code 2 (some .int)]
def wsX2_pass : List Cond := .code yX2_pass cX2_pass 2 (some .int) :: ((wsX2_pass_r1 ++ (wsX2_pass_r2 ++ (wsX2_pass_r3 ++ (wsX2_pass_r4 ++ wsX2_pass_r5)))) ++ wsX20 ++ wsX00 ++ wsX10 ++ (vx_atS RX2 53 "java/lang/IllegalArgumentException" ["java/lang/RuntimeException", "java/lang/Exception"]).filter goodWord)
def wsX2_dawn_r1 : List Cond := [Cond.classLink RX2 93 "java/lang/IllegalStateException", Cond.initialized "java/lang/IllegalStateException", Cond.fieldLink RX2 19 "LampHills" "night" "LLampHills$Night;", Cond.fieldLink RX2 158 "LampHills$Night" "minute" "I", Cond.fieldLink RX2 12 "LampHills" "town" "LLampHills$Town;", Cond.methodLink RX2 164 yX0_burningLamps, Cond.instanceMethod yX0_burningLamps, Cond.selects RX0 yX0_burningLamps yX0_burningLamps, Cond.initialized RX0, Cond.code yX0_burningLamps cX0_burningLamps 4 (some .int), Cond.fieldLink RX0 104 "LampHills$Town" "streets" "I", Cond.fieldLink RX0 9 "LampHills$Night" "burningIn" "[I", Cond.methodLink RX2 182 yX0_beginNext, Cond.instanceMethod yX0_beginNext, Cond.selects RX0 yX0_beginNext yX0_beginNext, Cond.code yX0_beginNext cX0_beginNext 3 none, Cond.fieldLink RX0 52 "LampHills$Night" "minute" "I", Cond.fieldLink RX0 56 "LampHills$Night" "number" "I", Cond.fieldLink RX0 85 "LampHills$Town" "lamps" "I", Cond.fieldLink RX0 21 "LampHills$Night" "burns" "[Z", Cond.fieldLink RX0 91 "LampHills$Town" "lighters" "I", Cond.methodLink RX0 88 yX0_putOut, Cond.instanceMethod yX0_putOut, Cond.selects RX0 yX0_putOut yX0_putOut]
def wsX2_dawn_r2 : List Cond := [Cond.code yX0_putOut cX0_putOut 3 none, Cond.fieldLink RX0 148 "LampHills$Town" "lampStreet" "[I", Cond.methodLink RX0 94 yX0_sendHome, Cond.instanceMethod yX0_sendHome, Cond.selects RX0 yX0_sendHome yX0_sendHome, Cond.code yX0_sendHome cX0_sendHome 3 none, Cond.fieldLink RX0 31 "LampHills$Night" "at" "[I", Cond.fieldLink RX0 97 "LampHills$Town" "home" "[I", Cond.fieldLink RX0 46 "LampHills$Night" "latestPlace" "[I", Cond.methodLink RX0 100 yX0_waitFromNow, Cond.instanceMethod yX0_waitFromNow, Cond.selects RX0 yX0_waitFromNow yX0_waitFromNow, Cond.code yX0_waitFromNow cX0_waitFromNow 2 none, Cond.fieldLink RX0 37 "LampHills$Night" "goesTo" "[I", Cond.fieldLink RX0 43 "LampHills$Night" "minutesLeft" "[I"]
def wsX2_dawn : List Cond := .code yX2_dawn cX2_dawn 2 (some .int) :: ((wsX2_dawn_r1 ++ wsX2_dawn_r2) ++ wsX20 ++ wsX00 ++ wsX10 ++ (vx_atS RX2 97 "java/lang/IllegalStateException" ["java/lang/RuntimeException", "java/lang/Exception"]).filter goodWord)
def wsX2_comes_r1 : List Cond := [Cond.fieldLink RX2 12 "LampHills" "town" "LLampHills$Town;", Cond.fieldLink RX2 63 "LampHills$Town" "lamps" "I", Cond.fieldLink RX2 23 "LampHills" "forecast" "LLampHills$Night;", Cond.fieldLink RX2 19 "LampHills" "night" "LLampHills$Night;", Cond.fieldLink RX2 158 "LampHills$Night" "minute" "I", Cond.fieldLink RX2 134 "LampHills$Night" "timesLit" "[I", Cond.methodLink RX2 46 yX2_requireIndex, Cond.static yX2_requireIndex, Cond.initialized RX2, Cond.code yX2_requireIndex cX2_requireIndex 2 none, Cond.classLink RX2 223 "java/lang/IndexOutOfBoundsException", Cond.initialized "java/lang/IndexOutOfBoundsException", Cond.methodLink RX2 186 yX0_copy, Cond.instanceMethod yX0_copy, Cond.selects RX0 yX0_copy yX0_copy, Cond.initialized RX0, Cond.code yX0_copy cX0_copy 3 none, Cond.fieldLink RX0 52 "LampHills$Night" "minute" "I", Cond.fieldLink RX0 56 "LampHills$Night" "number" "I", Cond.fieldLink RX0 59 "LampHills$Night" "oilUsed" "I", Cond.fieldLink RX0 9 "LampHills$Night" "burningIn" "[I", Cond.methodLink RX0 62 arraycopyName, Cond.native arraycopyName, Cond.static arraycopyName]
def wsX2_comes_r2 : List Cond := [Cond.initialized "java/lang/System", Cond.fieldLink RX0 15 "LampHills$Night" "oil" "[I", Cond.fieldLink RX0 18 "LampHills$Night" "soot" "[I", Cond.fieldLink RX0 21 "LampHills$Night" "burns" "[Z", Cond.fieldLink RX0 25 "LampHills$Night" "timesLit" "[I", Cond.fieldLink RX0 28 "LampHills$Night" "timesBlownOut" "[I", Cond.fieldLink RX0 31 "LampHills$Night" "at" "[I", Cond.fieldLink RX0 34 "LampHills$Night" "can" "[I", Cond.fieldLink RX0 37 "LampHills$Night" "goesTo" "[I", Cond.fieldLink RX0 40 "LampHills$Night" "goal" "[I", Cond.fieldLink RX0 43 "LampHills$Night" "minutesLeft" "[I", Cond.fieldLink RX0 46 "LampHills$Night" "latestPlace" "[I", Cond.fieldLink RX0 49 "LampHills$Night" "litBy" "[I", Cond.methodLink RX2 177 yX0_goBy, Cond.instanceMethod yX0_goBy, Cond.selects RX0 yX0_goBy yX0_goBy, Cond.code yX0_goBy cX0_goBy 5 (some .int), Cond.fieldLink RX0 76 "LampHills$Town" "wind" "[I", Cond.methodLink RX0 68 yX0_moveLighters, Cond.instanceMethod yX0_moveLighters, Cond.selects RX0 yX0_moveLighters yX0_moveLighters, Cond.code yX0_moveLighters cX0_moveLighters 4 (some .int), Cond.fieldLink RX0 91 "LampHills$Town" "lighters" "I", Cond.methodLink RX0 111 yX0_lookForLamp]
def wsX2_comes_r3 : List Cond := [Cond.instanceMethod yX0_lookForLamp, Cond.selects RX0 yX0_lookForLamp yX0_lookForLamp, Cond.code yX0_lookForLamp cX0_lookForLamp 5 none, Cond.fieldLink RX0 122 "LampHills$Town" "rounds" "[[I", Cond.fieldLink RX0 130 "LampHills$Town" "ways" "[[I", Cond.methodLink RX0 118 yX0_placeOfNextLamp, Cond.instanceMethod yX0_placeOfNextLamp, Cond.selects RX0 yX0_placeOfNextLamp yX0_placeOfNextLamp, Cond.code yX0_placeOfNextLamp cX0_placeOfNextLamp 7 (some .int), Cond.fieldLink RX0 133 "LampHills$Town" "roundSize" "[I", Cond.methodLink RX0 136 yX0_whoGoesTo, Cond.instanceMethod yX0_whoGoesTo, Cond.selects RX0 yX0_whoGoesTo yX0_whoGoesTo, Cond.code yX0_whoGoesTo cX0_whoGoesTo 4 (some .int), Cond.methodLink RX0 139 yX1_canReach, Cond.instanceMethod yX1_canReach, Cond.selects RX1 yX1_canReach yX1_canReach, Cond.initialized RX1, Cond.code yX1_canReach cX1_canReach 4 (some .boolean), Cond.fieldLink RX1 32 "LampHills$Town" "lampHeight" "[I", Cond.fieldLink RX1 44 "LampHills$Town" "ladder" "[I", Cond.fieldLink RX1 17 "LampHills$Town" "ways" "[[I", Cond.constant RX1 57 (1000000), Cond.methodLink RX1 84 yX1_nearerEnd]
def wsX2_comes_r4 : List Cond := [Cond.instanceMethod yX1_nearerEnd, Cond.selects RX1 yX1_nearerEnd yX1_nearerEnd, Cond.code yX1_nearerEnd cX1_nearerEnd 6 (some .int), Cond.fieldLink RX1 29 "LampHills$Town" "lampStreet" "[I", Cond.fieldLink RX1 20 "LampHills$Town" "firstEnd" "[I", Cond.fieldLink RX1 23 "LampHills$Town" "secondEnd" "[I", Cond.methodLink RX0 126 yX1_nearerEnd, Cond.methodLink RX0 114 yX0_tendLamp, Cond.instanceMethod yX0_tendLamp, Cond.selects RX0 yX0_tendLamp yX0_tendLamp, Cond.code yX0_tendLamp cX0_tendLamp 5 (some .boolean), Cond.methodLink RX0 143 Lib.Math.min.name, Cond.static Lib.Math.min.name, Cond.initialized "java/lang/Math", Cond.code Lib.Math.min.name Lib.Math.min.code 2 (some .int), Cond.fieldLink RX0 148 "LampHills$Town" "lampStreet" "[I", Cond.methodLink RX0 100 yX0_waitFromNow, Cond.instanceMethod yX0_waitFromNow, Cond.selects RX0 yX0_waitFromNow yX0_waitFromNow, Cond.code yX0_waitFromNow cX0_waitFromNow 2 none, Cond.methodLink RX0 72 yX0_burnLamps, Cond.instanceMethod yX0_burnLamps, Cond.selects RX0 yX0_burnLamps yX0_burnLamps, Cond.code yX0_burnLamps cX0_burnLamps 3 none]
def wsX2_comes_r5 : List Cond := [Cond.fieldLink RX0 85 "LampHills$Town" "lamps" "I", Cond.methodLink RX0 151 yX0_useOil, Cond.instanceMethod yX0_useOil, Cond.selects RX0 yX0_useOil yX0_useOil, Cond.code yX0_useOil cX0_useOil 4 none, Cond.methodLink RX0 88 yX0_putOut, Cond.instanceMethod yX0_putOut, Cond.selects RX0 yX0_putOut yX0_putOut, Cond.code yX0_putOut cX0_putOut 3 none, Cond.methodLink RX0 81 yX0_blow, Cond.instanceMethod yX0_blow, Cond.selects RX0 yX0_blow yX0_blow, Cond.code yX0_blow cX0_blow 4 none, Cond.fieldLink RX0 157 "LampHills$Town" "lid" "[I", Cond.methodLink RX0 154 yX1_windAtLamp, Cond.instanceMethod yX1_windAtLamp, Cond.selects RX1 yX1_windAtLamp yX1_windAtLamp, Cond.code yX1_windAtLamp cX1_windAtLamp 4 (some .int), Cond.fieldLink RX1 9 "LampHills$Town" "height" "[I", Cond.methodLink RX1 75 Lib.Math.max.name, Cond.static Lib.Math.max.name, Cond.code Lib.Math.max.name Lib.Math.max.code 2 (some .int)]
def wsX2_comes : List Cond := .code yX2_comes cX2_comes 4 (some .int) :: ((wsX2_comes_r1 ++ (wsX2_comes_r2 ++ (wsX2_comes_r3 ++ (wsX2_comes_r4 ++ wsX2_comes_r5)))) ++ wsX20 ++ wsX10 ++ wsX00 ++ (vx_atS RX2 227 "java/lang/IndexOutOfBoundsException" ["java/lang/RuntimeException", "java/lang/Exception"]).filter goodWord)
def wsX2_clearDarkMinutes : List Cond := .code yX2_clearDarkMinutes cX2_clearDarkMinutes 2 none :: ([.fieldLink RX2 26 "LampHills" "darkMinutes" "[I"] ++ wsX20)
def wsX2_addDarkMinute : List Cond := .code yX2_addDarkMinute cX2_addDarkMinute 2 none :: ([.fieldLink RX2 12 "LampHills" "town" "LLampHills$Town;", .fieldLink RX2 56 "LampHills$Town" "streets" "I", .fieldLink RX2 23 "LampHills" "forecast" "LLampHills$Night;", .fieldLink RX2 26 "LampHills" "darkMinutes" "[I", .methodLink RX2 232 yX0_isDark, .instanceMethod yX0_isDark, .selects RX0 yX0_isDark yX0_isDark, .initialized RX0, .code yX0_isDark cX0_isDark 2 (some .boolean), .fieldLink RX0 9 "LampHills$Night" "burningIn" "[I"] ++ wsX20 ++ wsX10 ++ wsX00)
def wsX2_streetOfMostDarkMinutes : List Cond := .code yX2_streetOfMostDarkMinutes cX2_streetOfMostDarkMinutes 4 (some .int) :: ([.fieldLink RX2 12 "LampHills" "town" "LLampHills$Town;", .fieldLink RX2 56 "LampHills$Town" "streets" "I", .fieldLink RX2 26 "LampHills" "darkMinutes" "[I"] ++ wsX20 ++ wsX10)
def wsX2_darkest_r1 : List Cond := [Cond.fieldLink RX2 23 "LampHills" "forecast" "LLampHills$Night;", Cond.fieldLink RX2 19 "LampHills" "night" "LLampHills$Night;", Cond.fieldLink RX2 158 "LampHills$Night" "minute" "I", Cond.fieldLink RX2 12 "LampHills" "town" "LLampHills$Town;", Cond.methodLink RX2 190 yX2_clearDarkMinutes, Cond.instanceMethod yX2_clearDarkMinutes, Cond.selects RX2 yX2_clearDarkMinutes yX2_clearDarkMinutes, Cond.initialized RX2, Cond.code yX2_clearDarkMinutes cX2_clearDarkMinutes 2 none, Cond.fieldLink RX2 26 "LampHills" "darkMinutes" "[I", Cond.methodLink RX2 186 yX0_copy, Cond.instanceMethod yX0_copy, Cond.selects RX0 yX0_copy yX0_copy, Cond.initialized RX0, Cond.code yX0_copy cX0_copy 3 none, Cond.fieldLink RX0 52 "LampHills$Night" "minute" "I", Cond.fieldLink RX0 56 "LampHills$Night" "number" "I", Cond.fieldLink RX0 59 "LampHills$Night" "oilUsed" "I", Cond.fieldLink RX0 9 "LampHills$Night" "burningIn" "[I", Cond.methodLink RX0 62 arraycopyName, Cond.native arraycopyName, Cond.static arraycopyName, Cond.initialized "java/lang/System", Cond.fieldLink RX0 15 "LampHills$Night" "oil" "[I"]
def wsX2_darkest_r2 : List Cond := [Cond.fieldLink RX0 18 "LampHills$Night" "soot" "[I", Cond.fieldLink RX0 21 "LampHills$Night" "burns" "[Z", Cond.fieldLink RX0 25 "LampHills$Night" "timesLit" "[I", Cond.fieldLink RX0 28 "LampHills$Night" "timesBlownOut" "[I", Cond.fieldLink RX0 31 "LampHills$Night" "at" "[I", Cond.fieldLink RX0 34 "LampHills$Night" "can" "[I", Cond.fieldLink RX0 37 "LampHills$Night" "goesTo" "[I", Cond.fieldLink RX0 40 "LampHills$Night" "goal" "[I", Cond.fieldLink RX0 43 "LampHills$Night" "minutesLeft" "[I", Cond.fieldLink RX0 46 "LampHills$Night" "latestPlace" "[I", Cond.fieldLink RX0 49 "LampHills$Night" "litBy" "[I", Cond.methodLink RX2 177 yX0_goBy, Cond.instanceMethod yX0_goBy, Cond.selects RX0 yX0_goBy yX0_goBy, Cond.code yX0_goBy cX0_goBy 5 (some .int), Cond.fieldLink RX0 76 "LampHills$Town" "wind" "[I", Cond.methodLink RX0 68 yX0_moveLighters, Cond.instanceMethod yX0_moveLighters, Cond.selects RX0 yX0_moveLighters yX0_moveLighters, Cond.code yX0_moveLighters cX0_moveLighters 4 (some .int), Cond.fieldLink RX0 91 "LampHills$Town" "lighters" "I", Cond.methodLink RX0 111 yX0_lookForLamp, Cond.instanceMethod yX0_lookForLamp, Cond.selects RX0 yX0_lookForLamp yX0_lookForLamp]
def wsX2_darkest_r3 : List Cond := [Cond.code yX0_lookForLamp cX0_lookForLamp 5 none, Cond.fieldLink RX0 122 "LampHills$Town" "rounds" "[[I", Cond.fieldLink RX0 130 "LampHills$Town" "ways" "[[I", Cond.methodLink RX0 118 yX0_placeOfNextLamp, Cond.instanceMethod yX0_placeOfNextLamp, Cond.selects RX0 yX0_placeOfNextLamp yX0_placeOfNextLamp, Cond.code yX0_placeOfNextLamp cX0_placeOfNextLamp 7 (some .int), Cond.fieldLink RX0 133 "LampHills$Town" "roundSize" "[I", Cond.methodLink RX0 136 yX0_whoGoesTo, Cond.instanceMethod yX0_whoGoesTo, Cond.selects RX0 yX0_whoGoesTo yX0_whoGoesTo, Cond.code yX0_whoGoesTo cX0_whoGoesTo 4 (some .int), Cond.methodLink RX0 139 yX1_canReach, Cond.instanceMethod yX1_canReach, Cond.selects RX1 yX1_canReach yX1_canReach, Cond.initialized RX1, Cond.code yX1_canReach cX1_canReach 4 (some .boolean), Cond.fieldLink RX1 32 "LampHills$Town" "lampHeight" "[I", Cond.fieldLink RX1 44 "LampHills$Town" "ladder" "[I", Cond.fieldLink RX1 17 "LampHills$Town" "ways" "[[I", Cond.constant RX1 57 (1000000), Cond.methodLink RX1 84 yX1_nearerEnd, Cond.instanceMethod yX1_nearerEnd, Cond.selects RX1 yX1_nearerEnd yX1_nearerEnd]
def wsX2_darkest_r4 : List Cond := [Cond.code yX1_nearerEnd cX1_nearerEnd 6 (some .int), Cond.fieldLink RX1 29 "LampHills$Town" "lampStreet" "[I", Cond.fieldLink RX1 20 "LampHills$Town" "firstEnd" "[I", Cond.fieldLink RX1 23 "LampHills$Town" "secondEnd" "[I", Cond.methodLink RX0 126 yX1_nearerEnd, Cond.methodLink RX0 114 yX0_tendLamp, Cond.instanceMethod yX0_tendLamp, Cond.selects RX0 yX0_tendLamp yX0_tendLamp, Cond.code yX0_tendLamp cX0_tendLamp 5 (some .boolean), Cond.methodLink RX0 143 Lib.Math.min.name, Cond.static Lib.Math.min.name, Cond.initialized "java/lang/Math", Cond.code Lib.Math.min.name Lib.Math.min.code 2 (some .int), Cond.fieldLink RX0 148 "LampHills$Town" "lampStreet" "[I", Cond.methodLink RX0 100 yX0_waitFromNow, Cond.instanceMethod yX0_waitFromNow, Cond.selects RX0 yX0_waitFromNow yX0_waitFromNow, Cond.code yX0_waitFromNow cX0_waitFromNow 2 none, Cond.methodLink RX0 72 yX0_burnLamps, Cond.instanceMethod yX0_burnLamps, Cond.selects RX0 yX0_burnLamps yX0_burnLamps, Cond.code yX0_burnLamps cX0_burnLamps 3 none, Cond.fieldLink RX0 85 "LampHills$Town" "lamps" "I", Cond.methodLink RX0 151 yX0_useOil]
def wsX2_darkest_r5 : List Cond := [Cond.instanceMethod yX0_useOil, Cond.selects RX0 yX0_useOil yX0_useOil, Cond.code yX0_useOil cX0_useOil 4 none, Cond.methodLink RX0 88 yX0_putOut, Cond.instanceMethod yX0_putOut, Cond.selects RX0 yX0_putOut yX0_putOut, Cond.code yX0_putOut cX0_putOut 3 none, Cond.methodLink RX0 81 yX0_blow, Cond.instanceMethod yX0_blow, Cond.selects RX0 yX0_blow yX0_blow, Cond.code yX0_blow cX0_blow 4 none, Cond.fieldLink RX0 157 "LampHills$Town" "lid" "[I", Cond.methodLink RX0 154 yX1_windAtLamp, Cond.instanceMethod yX1_windAtLamp, Cond.selects RX1 yX1_windAtLamp yX1_windAtLamp, Cond.code yX1_windAtLamp cX1_windAtLamp 4 (some .int), Cond.fieldLink RX1 9 "LampHills$Town" "height" "[I", Cond.methodLink RX1 75 Lib.Math.max.name, Cond.static Lib.Math.max.name, Cond.code Lib.Math.max.name Lib.Math.max.code 2 (some .int), Cond.methodLink RX2 193 yX2_addDarkMinute, Cond.instanceMethod yX2_addDarkMinute, Cond.selects RX2 yX2_addDarkMinute yX2_addDarkMinute, Cond.code yX2_addDarkMinute cX2_addDarkMinute 2 none]
def wsX2_darkest_r6 : List Cond := [Cond.fieldLink RX2 56 "LampHills$Town" "streets" "I", Cond.methodLink RX2 232 yX0_isDark, Cond.instanceMethod yX0_isDark, Cond.selects RX0 yX0_isDark yX0_isDark, Cond.code yX0_isDark cX0_isDark 2 (some .boolean), Cond.methodLink RX2 196 yX2_streetOfMostDarkMinutes, Cond.instanceMethod yX2_streetOfMostDarkMinutes, Cond.selects RX2 yX2_streetOfMostDarkMinutes yX2_streetOfMostDarkMinutes, Cond.code yX2_streetOfMostDarkMinutes cX2_streetOfMostDarkMinutes 4 (some .int)]
def wsX2_darkest : List Cond := .code yX2_darkest cX2_darkest 3 (some .int) :: ((wsX2_darkest_r1 ++ (wsX2_darkest_r2 ++ (wsX2_darkest_r3 ++ (wsX2_darkest_r4 ++ (wsX2_darkest_r5 ++ wsX2_darkest_r6))))) ++ wsX20 ++ wsX00 ++ wsX10)
def wsX2_needs : List Cond := .code yX2_needs cX2_needs 4 (some .int) :: ([.fieldLink RX2 12 "LampHills" "town" "LLampHills$Town;", .fieldLink RX2 63 "LampHills$Town" "lamps" "I", .fieldLink RX2 73 "LampHills$Town" "wind" "[I", .methodLink RX2 200 Lib.Math.max.name, .static Lib.Math.max.name, .initialized "java/lang/Math", .code Lib.Math.max.name Lib.Math.max.code 2 (some .int), .methodLink RX2 46 yX2_requireIndex, .static yX2_requireIndex, .initialized RX2, .code yX2_requireIndex cX2_requireIndex 2 none, .classLink RX2 223 "java/lang/IndexOutOfBoundsException", .initialized "java/lang/IndexOutOfBoundsException", .methodLink RX2 203 yX1_windAtLamp, .instanceMethod yX1_windAtLamp, .selects RX1 yX1_windAtLamp yX1_windAtLamp, .initialized RX1, .code yX1_windAtLamp cX1_windAtLamp 4 (some .int), .fieldLink RX1 29 "LampHills$Town" "lampStreet" "[I", .fieldLink RX1 9 "LampHills$Town" "height" "[I", .fieldLink RX1 20 "LampHills$Town" "firstEnd" "[I", .fieldLink RX1 23 "LampHills$Town" "secondEnd" "[I", .methodLink RX1 75 Lib.Math.max.name] ++ wsX20 ++ wsX10 ++ (vx_atS RX2 227 "java/lang/IndexOutOfBoundsException" ["java/lang/RuntimeException", "java/lang/Exception"]).filter goodWord)
def wsX2_foresee_r1 : List Cond := [Cond.fieldLink RX2 23 "LampHills" "forecast" "LLampHills$Night;", Cond.fieldLink RX2 19 "LampHills" "night" "LLampHills$Night;", Cond.fieldLink RX2 12 "LampHills" "town" "LLampHills$Town;", Cond.fieldLink RX2 174 "LampHills$Night" "oilUsed" "I", Cond.methodLink RX2 30 yX2_requireRange, Cond.static yX2_requireRange, Cond.initialized RX2, Cond.code yX2_requireRange cX2_requireRange 3 none, Cond.classLink RX2 49 "java/lang/IllegalArgumentException", Cond.initialized "java/lang/IllegalArgumentException", Cond.methodLink RX2 46 yX2_requireIndex, Cond.static yX2_requireIndex, Cond.code yX2_requireIndex cX2_requireIndex 2 none, Cond.classLink RX2 223 "java/lang/IndexOutOfBoundsException", Cond.initialized "java/lang/IndexOutOfBoundsException", Cond.methodLink RX2 186 yX0_copy, Cond.instanceMethod yX0_copy, Cond.selects RX0 yX0_copy yX0_copy, Cond.initialized RX0, Cond.code yX0_copy cX0_copy 3 none, Cond.fieldLink RX0 52 "LampHills$Night" "minute" "I", Cond.fieldLink RX0 56 "LampHills$Night" "number" "I", Cond.fieldLink RX0 59 "LampHills$Night" "oilUsed" "I", Cond.fieldLink RX0 9 "LampHills$Night" "burningIn" "[I"]
def wsX2_foresee_r2 : List Cond := [Cond.methodLink RX0 62 arraycopyName, Cond.native arraycopyName, Cond.static arraycopyName, Cond.initialized "java/lang/System", Cond.fieldLink RX0 15 "LampHills$Night" "oil" "[I", Cond.fieldLink RX0 18 "LampHills$Night" "soot" "[I", Cond.fieldLink RX0 21 "LampHills$Night" "burns" "[Z", Cond.fieldLink RX0 25 "LampHills$Night" "timesLit" "[I", Cond.fieldLink RX0 28 "LampHills$Night" "timesBlownOut" "[I", Cond.fieldLink RX0 31 "LampHills$Night" "at" "[I", Cond.fieldLink RX0 34 "LampHills$Night" "can" "[I", Cond.fieldLink RX0 37 "LampHills$Night" "goesTo" "[I", Cond.fieldLink RX0 40 "LampHills$Night" "goal" "[I", Cond.fieldLink RX0 43 "LampHills$Night" "minutesLeft" "[I", Cond.fieldLink RX0 46 "LampHills$Night" "latestPlace" "[I", Cond.fieldLink RX0 49 "LampHills$Night" "litBy" "[I", Cond.methodLink RX2 177 yX0_goBy, Cond.instanceMethod yX0_goBy, Cond.selects RX0 yX0_goBy yX0_goBy, Cond.code yX0_goBy cX0_goBy 5 (some .int), Cond.fieldLink RX0 76 "LampHills$Town" "wind" "[I", Cond.methodLink RX0 68 yX0_moveLighters, Cond.instanceMethod yX0_moveLighters, Cond.selects RX0 yX0_moveLighters yX0_moveLighters]
def wsX2_foresee_r3 : List Cond := [Cond.code yX0_moveLighters cX0_moveLighters 4 (some .int), Cond.fieldLink RX0 91 "LampHills$Town" "lighters" "I", Cond.methodLink RX0 111 yX0_lookForLamp, Cond.instanceMethod yX0_lookForLamp, Cond.selects RX0 yX0_lookForLamp yX0_lookForLamp, Cond.code yX0_lookForLamp cX0_lookForLamp 5 none, Cond.fieldLink RX0 122 "LampHills$Town" "rounds" "[[I", Cond.fieldLink RX0 130 "LampHills$Town" "ways" "[[I", Cond.methodLink RX0 118 yX0_placeOfNextLamp, Cond.instanceMethod yX0_placeOfNextLamp, Cond.selects RX0 yX0_placeOfNextLamp yX0_placeOfNextLamp, Cond.code yX0_placeOfNextLamp cX0_placeOfNextLamp 7 (some .int), Cond.fieldLink RX0 133 "LampHills$Town" "roundSize" "[I", Cond.methodLink RX0 136 yX0_whoGoesTo, Cond.instanceMethod yX0_whoGoesTo, Cond.selects RX0 yX0_whoGoesTo yX0_whoGoesTo, Cond.code yX0_whoGoesTo cX0_whoGoesTo 4 (some .int), Cond.methodLink RX0 139 yX1_canReach, Cond.instanceMethod yX1_canReach, Cond.selects RX1 yX1_canReach yX1_canReach, Cond.initialized RX1, Cond.code yX1_canReach cX1_canReach 4 (some .boolean), Cond.fieldLink RX1 32 "LampHills$Town" "lampHeight" "[I", Cond.fieldLink RX1 44 "LampHills$Town" "ladder" "[I"]
def wsX2_foresee_r4 : List Cond := [Cond.fieldLink RX1 17 "LampHills$Town" "ways" "[[I", Cond.constant RX1 57 (1000000), Cond.methodLink RX1 84 yX1_nearerEnd, Cond.instanceMethod yX1_nearerEnd, Cond.selects RX1 yX1_nearerEnd yX1_nearerEnd, Cond.code yX1_nearerEnd cX1_nearerEnd 6 (some .int), Cond.fieldLink RX1 29 "LampHills$Town" "lampStreet" "[I", Cond.fieldLink RX1 20 "LampHills$Town" "firstEnd" "[I", Cond.fieldLink RX1 23 "LampHills$Town" "secondEnd" "[I", Cond.methodLink RX0 126 yX1_nearerEnd, Cond.methodLink RX0 114 yX0_tendLamp, Cond.instanceMethod yX0_tendLamp, Cond.selects RX0 yX0_tendLamp yX0_tendLamp, Cond.code yX0_tendLamp cX0_tendLamp 5 (some .boolean), Cond.methodLink RX0 143 Lib.Math.min.name, Cond.static Lib.Math.min.name, Cond.initialized "java/lang/Math", Cond.code Lib.Math.min.name Lib.Math.min.code 2 (some .int), Cond.fieldLink RX0 148 "LampHills$Town" "lampStreet" "[I", Cond.methodLink RX0 100 yX0_waitFromNow, Cond.instanceMethod yX0_waitFromNow, Cond.selects RX0 yX0_waitFromNow yX0_waitFromNow, Cond.code yX0_waitFromNow cX0_waitFromNow 2 none, Cond.methodLink RX0 72 yX0_burnLamps]
def wsX2_foresee_r5 : List Cond := [Cond.instanceMethod yX0_burnLamps, Cond.selects RX0 yX0_burnLamps yX0_burnLamps, Cond.code yX0_burnLamps cX0_burnLamps 3 none, Cond.fieldLink RX0 85 "LampHills$Town" "lamps" "I", Cond.methodLink RX0 151 yX0_useOil, Cond.instanceMethod yX0_useOil, Cond.selects RX0 yX0_useOil yX0_useOil, Cond.code yX0_useOil cX0_useOil 4 none, Cond.methodLink RX0 88 yX0_putOut, Cond.instanceMethod yX0_putOut, Cond.selects RX0 yX0_putOut yX0_putOut, Cond.code yX0_putOut cX0_putOut 3 none, Cond.methodLink RX0 81 yX0_blow, Cond.instanceMethod yX0_blow, Cond.selects RX0 yX0_blow yX0_blow, Cond.code yX0_blow cX0_blow 4 none, Cond.fieldLink RX0 157 "LampHills$Town" "lid" "[I", Cond.methodLink RX0 154 yX1_windAtLamp, Cond.instanceMethod yX1_windAtLamp, Cond.selects RX1 yX1_windAtLamp yX1_windAtLamp, Cond.code yX1_windAtLamp cX1_windAtLamp 4 (some .int), Cond.fieldLink RX1 9 "LampHills$Town" "height" "[I", Cond.methodLink RX1 75 Lib.Math.max.name, Cond.static Lib.Math.max.name]
def wsX2_foresee_r6 : List Cond := [Cond.code Lib.Math.max.name Lib.Math.max.code 2 (some .int), Cond.methodLink RX2 164 yX0_burningLamps, Cond.instanceMethod yX0_burningLamps, Cond.selects RX0 yX0_burningLamps yX0_burningLamps, Cond.code yX0_burningLamps cX0_burningLamps 4 (some .int), Cond.fieldLink RX0 104 "LampHills$Town" "streets" "I", Cond.methodLink RX2 168 yX0_darkStreets, Cond.instanceMethod yX0_darkStreets, Cond.selects RX0 yX0_darkStreets yX0_darkStreets, Cond.code yX0_darkStreets cX0_darkStreets 4 (some .int), Cond.methodLink RX0 107 yX0_isDark, Cond.instanceMethod yX0_isDark, Cond.selects RX0 yX0_isDark yX0_isDark, Cond.code yX0_isDark cX0_isDark 2 (some .boolean)]
def wsX2_foresee : List Cond := .code yX2_foresee cX2_foresee 3 (some .int) :: ((wsX2_foresee_r1 ++ (wsX2_foresee_r2 ++ (wsX2_foresee_r3 ++ (wsX2_foresee_r4 ++ (wsX2_foresee_r5 ++ wsX2_foresee_r6))))) ++ wsX20 ++ wsX00 ++ wsX10 ++ (vx_atS RX2 53 "java/lang/IllegalArgumentException" ["java/lang/RuntimeException", "java/lang/Exception"]).filter goodWord ++ (vx_atS RX2 227 "java/lang/IndexOutOfBoundsException" ["java/lang/RuntimeException", "java/lang/Exception"]).filter goodWord)
def wsX2_mean : List Cond := .code yX2_mean cX2_mean 1 (some .double) :: ([.fieldLink RX2 12 "LampHills" "town" "LLampHills$Town;", .fieldLink RX2 63 "LampHills$Town" "lamps" "I", .fieldLink RX2 19 "LampHills" "night" "LLampHills$Night;", .methodLink RX2 171 yX0_oilOfLamps, .instanceMethod yX0_oilOfLamps, .selects RX0 yX0_oilOfLamps yX0_oilOfLamps, .initialized RX0, .code yX0_oilOfLamps cX0_oilOfLamps 4 (some .int), .fieldLink RX0 85 "LampHills$Town" "lamps" "I", .fieldLink RX0 15 "LampHills$Night" "oil" "[I"] ++ wsX20 ++ wsX10 ++ wsX00)
def wsX2_digestStreets : List Cond := .code yX2_digestStreets cX2_digestStreets 6 (some .long) :: ([.fieldLink RX2 12 "LampHills" "town" "LLampHills$Town;", .fieldLink RX2 34 "LampHills$Town" "corners" "I", .constantLong RX2 208 (31), .fieldLink RX2 236 "LampHills$Town" "height" "[I", .fieldLink RX2 56 "LampHills$Town" "streets" "I", .fieldLink RX2 239 "LampHills$Town" "firstEnd" "[I", .fieldLink RX2 242 "LampHills$Town" "secondEnd" "[I", .fieldLink RX2 245 "LampHills$Town" "length" "[I", .methodLink RX2 248 yX2_burning, .instanceMethod yX2_burning, .selects RX2 yX2_burning yX2_burning, .initialized RX2, .code yX2_burning cX2_burning 2 (some .int), .fieldLink RX2 19 "LampHills" "night" "LLampHills$Night;", .fieldLink RX2 155 "LampHills$Night" "burningIn" "[I", .methodLink RX2 46 yX2_requireIndex, .static yX2_requireIndex, .code yX2_requireIndex cX2_requireIndex 2 none, .classLink RX2 223 "java/lang/IndexOutOfBoundsException", .initialized "java/lang/IndexOutOfBoundsException"] ++ wsX20 ++ wsX10 ++ wsX00 ++ (vx_atS RX2 227 "java/lang/IndexOutOfBoundsException" ["java/lang/RuntimeException", "java/lang/Exception"]).filter goodWord)
def wsX2_digestLamps_r1 : List Cond := [Cond.fieldLink RX2 12 "LampHills" "town" "LLampHills$Town;", Cond.fieldLink RX2 63 "LampHills$Town" "lamps" "I", Cond.constantLong RX2 208 (31), Cond.methodLink RX2 251 yX2_told, Cond.instanceMethod yX2_told, Cond.selects RX2 yX2_told yX2_told, Cond.initialized RX2, Cond.code yX2_told cX2_told 3 (some .int), Cond.fieldLink RX2 114 "LampHills$Town" "lampStreet" "[I", Cond.fieldLink RX2 117 "LampHills$Town" "lampHeight" "[I", Cond.fieldLink RX2 70 "LampHills$Town" "lid" "[I", Cond.fieldLink RX2 19 "LampHills" "night" "LLampHills$Night;", Cond.fieldLink RX2 120 "LampHills$Night" "oil" "[I", Cond.fieldLink RX2 123 "LampHills$Night" "soot" "[I", Cond.fieldLink RX2 126 "LampHills$Night" "burns" "[Z", Cond.fieldLink RX2 134 "LampHills$Night" "timesLit" "[I", Cond.fieldLink RX2 137 "LampHills$Night" "timesBlownOut" "[I", Cond.methodLink RX2 46 yX2_requireIndex, Cond.static yX2_requireIndex, Cond.code yX2_requireIndex cX2_requireIndex 2 none, Cond.classLink RX2 223 "java/lang/IndexOutOfBoundsException", Cond.initialized "java/lang/IndexOutOfBoundsException", Cond.methodLink RX2 130 yX0_whoGoesTo, Cond.instanceMethod yX0_whoGoesTo]
def wsX2_digestLamps_r2 : List Cond := [Cond.selects RX0 yX0_whoGoesTo yX0_whoGoesTo, Cond.initialized RX0, Cond.code yX0_whoGoesTo cX0_whoGoesTo 4 (some .int), Cond.fieldLink RX0 91 "LampHills$Town" "lighters" "I", Cond.fieldLink RX0 37 "LampHills$Night" "goesTo" "[I"]
def wsX2_digestLamps : List Cond := .code yX2_digestLamps cX2_digestLamps 7 (some .long) :: ((wsX2_digestLamps_r1 ++ wsX2_digestLamps_r2) ++ wsX20 ++ wsX10 ++ wsX00 ++ (vx_atS RX2 227 "java/lang/IndexOutOfBoundsException" ["java/lang/RuntimeException", "java/lang/Exception"]).filter goodWord)
def wsX2_digestLighters : List Cond := .code yX2_digestLighters cX2_digestLighters 7 (some .long) :: ([.fieldLink RX2 12 "LampHills" "town" "LLampHills$Town;", .fieldLink RX2 76 "LampHills$Town" "lighters" "I", .constantLong RX2 208 (31), .fieldLink RX2 98 "LampHills$Town" "roundSize" "[I", .fieldLink RX2 257 "LampHills$Town" "rounds" "[[I", .methodLink RX2 254 yX2_lighter, .instanceMethod yX2_lighter, .selects RX2 yX2_lighter yX2_lighter, .initialized RX2, .code yX2_lighter cX2_lighter 3 (some .int), .fieldLink RX2 19 "LampHills" "night" "LLampHills$Night;", .fieldLink RX2 140 "LampHills$Night" "at" "[I", .fieldLink RX2 143 "LampHills$Town" "ladder" "[I", .fieldLink RX2 82 "LampHills$Night" "can" "[I", .fieldLink RX2 146 "LampHills$Night" "goesTo" "[I", .fieldLink RX2 149 "LampHills$Night" "minutesLeft" "[I", .fieldLink RX2 152 "LampHills$Night" "litBy" "[I", .methodLink RX2 46 yX2_requireIndex, .static yX2_requireIndex, .code yX2_requireIndex cX2_requireIndex 2 none, .classLink RX2 223 "java/lang/IndexOutOfBoundsException", .initialized "java/lang/IndexOutOfBoundsException"] ++ wsX20 ++ wsX10 ++ wsX00 ++ (vx_atS RX2 227 "java/lang/IndexOutOfBoundsException" ["java/lang/RuntimeException", "java/lang/Exception"]).filter goodWord)
def wsX2_digest_r1 : List Cond := [Cond.constantLong RX2 206 (941), Cond.constantLong RX2 208 (31), Cond.fieldLink RX2 12 "LampHills" "town" "LLampHills$Town;", Cond.fieldLink RX2 73 "LampHills$Town" "wind" "[I", Cond.methodLink RX2 210 yX2_count, Cond.instanceMethod yX2_count, Cond.selects RX2 yX2_count yX2_count, Cond.initialized RX2, Cond.code yX2_count cX2_count 2 (some .int), Cond.fieldLink RX2 19 "LampHills" "night" "LLampHills$Night;", Cond.fieldLink RX2 158 "LampHills$Night" "minute" "I", Cond.fieldLink RX2 161 "LampHills$Night" "number" "I", Cond.fieldLink RX2 34 "LampHills$Town" "corners" "I", Cond.fieldLink RX2 56 "LampHills$Town" "streets" "I", Cond.fieldLink RX2 63 "LampHills$Town" "lamps" "I", Cond.fieldLink RX2 76 "LampHills$Town" "lighters" "I", Cond.fieldLink RX2 174 "LampHills$Night" "oilUsed" "I", Cond.methodLink RX2 46 yX2_requireIndex, Cond.static yX2_requireIndex, Cond.code yX2_requireIndex cX2_requireIndex 2 none, Cond.classLink RX2 223 "java/lang/IndexOutOfBoundsException", Cond.initialized "java/lang/IndexOutOfBoundsException", Cond.methodLink RX2 164 yX0_burningLamps, Cond.instanceMethod yX0_burningLamps]
def wsX2_digest_r2 : List Cond := [Cond.selects RX0 yX0_burningLamps yX0_burningLamps, Cond.initialized RX0, Cond.code yX0_burningLamps cX0_burningLamps 4 (some .int), Cond.fieldLink RX0 104 "LampHills$Town" "streets" "I", Cond.fieldLink RX0 9 "LampHills$Night" "burningIn" "[I", Cond.methodLink RX2 168 yX0_darkStreets, Cond.instanceMethod yX0_darkStreets, Cond.selects RX0 yX0_darkStreets yX0_darkStreets, Cond.code yX0_darkStreets cX0_darkStreets 4 (some .int), Cond.methodLink RX0 107 yX0_isDark, Cond.instanceMethod yX0_isDark, Cond.selects RX0 yX0_isDark yX0_isDark, Cond.code yX0_isDark cX0_isDark 2 (some .boolean), Cond.methodLink RX2 171 yX0_oilOfLamps, Cond.instanceMethod yX0_oilOfLamps, Cond.selects RX0 yX0_oilOfLamps yX0_oilOfLamps, Cond.code yX0_oilOfLamps cX0_oilOfLamps 4 (some .int), Cond.fieldLink RX0 85 "LampHills$Town" "lamps" "I", Cond.fieldLink RX0 15 "LampHills$Night" "oil" "[I", Cond.methodLink RX2 213 yX2_digestStreets, Cond.instanceMethod yX2_digestStreets, Cond.selects RX2 yX2_digestStreets yX2_digestStreets, Cond.code yX2_digestStreets cX2_digestStreets 6 (some .long), Cond.fieldLink RX2 236 "LampHills$Town" "height" "[I"]
def wsX2_digest_r3 : List Cond := [Cond.fieldLink RX2 239 "LampHills$Town" "firstEnd" "[I", Cond.fieldLink RX2 242 "LampHills$Town" "secondEnd" "[I", Cond.fieldLink RX2 245 "LampHills$Town" "length" "[I", Cond.methodLink RX2 248 yX2_burning, Cond.instanceMethod yX2_burning, Cond.selects RX2 yX2_burning yX2_burning, Cond.code yX2_burning cX2_burning 2 (some .int), Cond.fieldLink RX2 155 "LampHills$Night" "burningIn" "[I", Cond.methodLink RX2 217 yX2_digestLamps, Cond.instanceMethod yX2_digestLamps, Cond.selects RX2 yX2_digestLamps yX2_digestLamps, Cond.code yX2_digestLamps cX2_digestLamps 7 (some .long), Cond.methodLink RX2 251 yX2_told, Cond.instanceMethod yX2_told, Cond.selects RX2 yX2_told yX2_told, Cond.code yX2_told cX2_told 3 (some .int), Cond.fieldLink RX2 114 "LampHills$Town" "lampStreet" "[I", Cond.fieldLink RX2 117 "LampHills$Town" "lampHeight" "[I", Cond.fieldLink RX2 70 "LampHills$Town" "lid" "[I", Cond.fieldLink RX2 120 "LampHills$Night" "oil" "[I", Cond.fieldLink RX2 123 "LampHills$Night" "soot" "[I", Cond.fieldLink RX2 126 "LampHills$Night" "burns" "[Z", Cond.fieldLink RX2 134 "LampHills$Night" "timesLit" "[I", Cond.fieldLink RX2 137 "LampHills$Night" "timesBlownOut" "[I"]
def wsX2_digest_r4 : List Cond := [Cond.methodLink RX2 130 yX0_whoGoesTo, Cond.instanceMethod yX0_whoGoesTo, Cond.selects RX0 yX0_whoGoesTo yX0_whoGoesTo, Cond.code yX0_whoGoesTo cX0_whoGoesTo 4 (some .int), Cond.fieldLink RX0 91 "LampHills$Town" "lighters" "I", Cond.fieldLink RX0 37 "LampHills$Night" "goesTo" "[I", Cond.methodLink RX2 220 yX2_digestLighters, Cond.instanceMethod yX2_digestLighters, Cond.selects RX2 yX2_digestLighters yX2_digestLighters, Cond.code yX2_digestLighters cX2_digestLighters 7 (some .long), Cond.fieldLink RX2 98 "LampHills$Town" "roundSize" "[I", Cond.fieldLink RX2 257 "LampHills$Town" "rounds" "[[I", Cond.methodLink RX2 254 yX2_lighter, Cond.instanceMethod yX2_lighter, Cond.selects RX2 yX2_lighter yX2_lighter, Cond.code yX2_lighter cX2_lighter 3 (some .int), Cond.fieldLink RX2 140 "LampHills$Night" "at" "[I", Cond.fieldLink RX2 143 "LampHills$Town" "ladder" "[I", Cond.fieldLink RX2 82 "LampHills$Night" "can" "[I", Cond.fieldLink RX2 146 "LampHills$Night" "goesTo" "[I", Cond.fieldLink RX2 149 "LampHills$Night" "minutesLeft" "[I", Cond.fieldLink RX2 152 "LampHills$Night" "litBy" "[I"]
def wsX2_digest : List Cond := .code yX2_digest cX2_digest 4 (some .long) :: ((wsX2_digest_r1 ++ (wsX2_digest_r2 ++ (wsX2_digest_r3 ++ wsX2_digest_r4))) ++ wsX20 ++ wsX10 ++ wsX00 ++ (vx_atS RX2 227 "java/lang/IndexOutOfBoundsException" ["java/lang/RuntimeException", "java/lang/Exception"]).filter goodWord)
def wsX3_init : List Cond := .code yX3_init cX3_init 1 none :: ([.methodLink RX3 1 objectInit, .instanceMethod objectInit, .code objectInit ⟨#[0xb1]⟩ 1 none, .arrayClass .int, .fieldLink RX3 9 "LampHillsModel" "heights" "[I", .fieldLink RX3 13 "LampHillsModel" "roads" "[I", .fieldLink RX3 16 "LampHillsModel" "ways" "[I", .fieldLink RX3 19 "LampHillsModel" "lights" "[I", .fieldLink RX3 22 "LampHillsModel" "people" "[I", .fieldLink RX3 25 "LampHillsModel" "rounds" "[I", .fieldLink RX3 28 "LampHillsModel" "winds" "[I", .fieldLink RX3 31 "LampHillsModel" "numbers" "[I"] ++ wsX30)
def wsX3_thrown : List Cond := .code yX3_thrown cX3_thrown 1 (some .int) :: ([.fieldLink RX3 34 "LampHillsModel" "thrown" "I"] ++ wsX30)
def wsX3_fail : List Cond := .code yX3_fail cX3_fail 2 (some .int) :: ([.fieldLink RX3 34 "LampHillsModel" "thrown" "I"] ++ wsX30)
def wsX3_isIn : List Cond := .code yX3_isIn cX3_isIn 3 (some .boolean) :: ([])
def wsX3_isCorner : List Cond := .code yX3_isCorner cX3_isCorner 2 (some .boolean) :: ([.fieldLink RX3 38 "LampHillsModel" "corners" "I", .methodLink RX3 41 yX3_isIn, .static yX3_isIn, .initialized RX3, .code yX3_isIn cX3_isIn 3 (some .boolean)] ++ wsX30)
def wsX3_isStreet : List Cond := .code yX3_isStreet cX3_isStreet 2 (some .boolean) :: ([.fieldLink RX3 45 "LampHillsModel" "streets" "I", .methodLink RX3 41 yX3_isIn, .static yX3_isIn, .initialized RX3, .code yX3_isIn cX3_isIn 3 (some .boolean)] ++ wsX30)
def wsX3_isLamp : List Cond := .code yX3_isLamp cX3_isLamp 2 (some .boolean) :: ([.fieldLink RX3 48 "LampHillsModel" "lamps" "I", .methodLink RX3 41 yX3_isIn, .static yX3_isIn, .initialized RX3, .code yX3_isIn cX3_isIn 3 (some .boolean)] ++ wsX30)
def wsX3_isLighter : List Cond := .code yX3_isLighter cX3_isLighter 2 (some .boolean) :: ([.fieldLink RX3 51 "LampHillsModel" "lighters" "I", .methodLink RX3 41 yX3_isIn, .static yX3_isIn, .initialized RX3, .code yX3_isIn cX3_isIn 3 (some .boolean)] ++ wsX30)
def wsX3_ro : List Cond := .code yX3_ro cX3_ro 3 (some .int) :: ([.fieldLink RX3 13 "LampHillsModel" "roads" "[I"] ++ wsX30)
def wsX3_la : List Cond := .code yX3_la cX3_la 3 (some .int) :: ([.fieldLink RX3 19 "LampHillsModel" "lights" "[I"] ++ wsX30)
def wsX3_setLamp : List Cond := .code yX3_setLamp cX3_setLamp 4 none :: ([.fieldLink RX3 19 "LampHillsModel" "lights" "[I"] ++ wsX30)
def wsX3_pe : List Cond := .code yX3_pe cX3_pe 3 (some .int) :: ([.fieldLink RX3 22 "LampHillsModel" "people" "[I"] ++ wsX30)
def wsX3_put : List Cond := .code yX3_put cX3_put 4 none :: ([.fieldLink RX3 22 "LampHillsModel" "people" "[I"] ++ wsX30)
def wsX3_reckon : List Cond := .code yX3_reckon cX3_reckon 6 none :: ([.fieldLink RX3 38 "LampHillsModel" "corners" "I", .fieldLink RX3 16 "LampHillsModel" "ways" "[I", .fieldLink RX3 45 "LampHillsModel" "streets" "I", .fieldLink RX3 9 "LampHillsModel" "heights" "[I", .methodLink RX3 58 Lib.Math.max.name, .static Lib.Math.max.name, .initialized "java/lang/Math", .code Lib.Math.max.name Lib.Math.max.code 2 (some .int), .methodLink RX3 63 Lib.Math.min.name, .static Lib.Math.min.name, .code Lib.Math.min.name Lib.Math.min.code 2 (some .int), .methodLink RX3 54 yX3_ro, .instanceMethod yX3_ro, .selects RX3 yX3_ro yX3_ro, .initialized RX3, .code yX3_ro cX3_ro 3 (some .int), .fieldLink RX3 13 "LampHillsModel" "roads" "[I"] ++ wsX30)
def wsX3_corner_r1 : List Cond := [Cond.fieldLink RX3 34 "LampHillsModel" "thrown" "I", Cond.fieldLink RX3 38 "LampHillsModel" "corners" "I", Cond.fieldLink RX3 9 "LampHillsModel" "heights" "[I", Cond.methodLink RX3 41 yX3_isIn, Cond.static yX3_isIn, Cond.initialized RX3, Cond.code yX3_isIn cX3_isIn 3 (some .boolean), Cond.methodLink RX3 66 yX3_fail, Cond.instanceMethod yX3_fail, Cond.selects RX3 yX3_fail yX3_fail, Cond.code yX3_fail cX3_fail 2 (some .int), Cond.methodLink RX3 70 yX3_reckon, Cond.instanceMethod yX3_reckon, Cond.selects RX3 yX3_reckon yX3_reckon, Cond.code yX3_reckon cX3_reckon 6 none, Cond.fieldLink RX3 16 "LampHillsModel" "ways" "[I", Cond.fieldLink RX3 45 "LampHillsModel" "streets" "I", Cond.methodLink RX3 58 Lib.Math.max.name, Cond.static Lib.Math.max.name, Cond.initialized "java/lang/Math", Cond.code Lib.Math.max.name Lib.Math.max.code 2 (some .int), Cond.methodLink RX3 63 Lib.Math.min.name, Cond.static Lib.Math.min.name, Cond.code Lib.Math.min.name Lib.Math.min.code 2 (some .int)]
def wsX3_corner_r2 : List Cond := [Cond.methodLink RX3 54 yX3_ro, Cond.instanceMethod yX3_ro, Cond.selects RX3 yX3_ro yX3_ro, Cond.code yX3_ro cX3_ro 3 (some .int), Cond.fieldLink RX3 13 "LampHillsModel" "roads" "[I"]
def wsX3_corner : List Cond := .code yX3_corner cX3_corner 2 (some .int) :: ((wsX3_corner_r1 ++ wsX3_corner_r2) ++ wsX30)
def wsX3_street_r1 : List Cond := [Cond.fieldLink RX3 34 "LampHillsModel" "thrown" "I", Cond.fieldLink RX3 45 "LampHillsModel" "streets" "I", Cond.arrayClass .int, Cond.fieldLink RX3 13 "LampHillsModel" "roads" "[I", Cond.methodLink RX3 77 arraycopyName, Cond.native arraycopyName, Cond.static arraycopyName, Cond.initialized "java/lang/System", Cond.methodLink RX3 73 yX3_isCorner, Cond.instanceMethod yX3_isCorner, Cond.selects RX3 yX3_isCorner yX3_isCorner, Cond.initialized RX3, Cond.code yX3_isCorner cX3_isCorner 2 (some .boolean), Cond.fieldLink RX3 38 "LampHillsModel" "corners" "I", Cond.methodLink RX3 41 yX3_isIn, Cond.static yX3_isIn, Cond.code yX3_isIn cX3_isIn 3 (some .boolean), Cond.methodLink RX3 66 yX3_fail, Cond.instanceMethod yX3_fail, Cond.selects RX3 yX3_fail yX3_fail, Cond.code yX3_fail cX3_fail 2 (some .int), Cond.methodLink RX3 70 yX3_reckon, Cond.instanceMethod yX3_reckon, Cond.selects RX3 yX3_reckon yX3_reckon]
def wsX3_street_r2 : List Cond := [Cond.code yX3_reckon cX3_reckon 6 none, Cond.fieldLink RX3 16 "LampHillsModel" "ways" "[I", Cond.fieldLink RX3 9 "LampHillsModel" "heights" "[I", Cond.methodLink RX3 58 Lib.Math.max.name, Cond.static Lib.Math.max.name, Cond.initialized "java/lang/Math", Cond.code Lib.Math.max.name Lib.Math.max.code 2 (some .int), Cond.methodLink RX3 63 Lib.Math.min.name, Cond.static Lib.Math.min.name, Cond.code Lib.Math.min.name Lib.Math.min.code 2 (some .int), Cond.methodLink RX3 54 yX3_ro, Cond.instanceMethod yX3_ro, Cond.selects RX3 yX3_ro yX3_ro, Cond.code yX3_ro cX3_ro 3 (some .int)]
def wsX3_street : List Cond := .code yX3_street cX3_street 5 (some .int) :: ((wsX3_street_r1 ++ wsX3_street_r2) ++ wsX30)
def wsX3_lamp : List Cond := .code yX3_lamp cX3_lamp 4 (some .int) :: ([.fieldLink RX3 34 "LampHillsModel" "thrown" "I", .fieldLink RX3 48 "LampHillsModel" "lamps" "I", .arrayClass .int, .fieldLink RX3 19 "LampHillsModel" "lights" "[I", .methodLink RX3 77 arraycopyName, .native arraycopyName, .static arraycopyName, .initialized "java/lang/System", .methodLink RX3 83 yX3_isStreet, .instanceMethod yX3_isStreet, .selects RX3 yX3_isStreet yX3_isStreet, .initialized RX3, .code yX3_isStreet cX3_isStreet 2 (some .boolean), .fieldLink RX3 45 "LampHillsModel" "streets" "I", .methodLink RX3 41 yX3_isIn, .static yX3_isIn, .code yX3_isIn cX3_isIn 3 (some .boolean), .methodLink RX3 66 yX3_fail, .instanceMethod yX3_fail, .selects RX3 yX3_fail yX3_fail, .code yX3_fail cX3_fail 2 (some .int)] ++ wsX30)
def wsX3_lid : List Cond := .code yX3_lid cX3_lid 4 (some .int) :: ([.fieldLink RX3 34 "LampHillsModel" "thrown" "I", .methodLink RX3 86 yX3_isLamp, .instanceMethod yX3_isLamp, .selects RX3 yX3_isLamp yX3_isLamp, .initialized RX3, .code yX3_isLamp cX3_isLamp 2 (some .boolean), .fieldLink RX3 48 "LampHillsModel" "lamps" "I", .methodLink RX3 41 yX3_isIn, .static yX3_isIn, .code yX3_isIn cX3_isIn 3 (some .boolean), .methodLink RX3 66 yX3_fail, .instanceMethod yX3_fail, .selects RX3 yX3_fail yX3_fail, .code yX3_fail cX3_fail 2 (some .int), .methodLink RX3 89 yX3_la, .instanceMethod yX3_la, .selects RX3 yX3_la yX3_la, .code yX3_la cX3_la 3 (some .int), .fieldLink RX3 19 "LampHillsModel" "lights" "[I", .methodLink RX3 92 yX3_setLamp, .instanceMethod yX3_setLamp, .selects RX3 yX3_setLamp yX3_setLamp, .code yX3_setLamp cX3_setLamp 4 none] ++ wsX30)
def wsX3_setWind : List Cond := .code yX3_setWind cX3_setWind 4 (some .int) :: ([.fieldLink RX3 34 "LampHillsModel" "thrown" "I", .fieldLink RX3 28 "LampHillsModel" "winds" "[I", .methodLink RX3 41 yX3_isIn, .static yX3_isIn, .initialized RX3, .code yX3_isIn cX3_isIn 3 (some .boolean), .methodLink RX3 66 yX3_fail, .instanceMethod yX3_fail, .selects RX3 yX3_fail yX3_fail, .code yX3_fail cX3_fail 2 (some .int)] ++ wsX30)
def wsX3_hire : List Cond := .code yX3_hire cX3_hire 5 (some .int) :: ([.fieldLink RX3 34 "LampHillsModel" "thrown" "I", .fieldLink RX3 51 "LampHillsModel" "lighters" "I", .arrayClass .int, .fieldLink RX3 22 "LampHillsModel" "people" "[I", .methodLink RX3 77 arraycopyName, .native arraycopyName, .static arraycopyName, .initialized "java/lang/System", .methodLink RX3 73 yX3_isCorner, .instanceMethod yX3_isCorner, .selects RX3 yX3_isCorner yX3_isCorner, .initialized RX3, .code yX3_isCorner cX3_isCorner 2 (some .boolean), .fieldLink RX3 38 "LampHillsModel" "corners" "I", .methodLink RX3 41 yX3_isIn, .static yX3_isIn, .code yX3_isIn cX3_isIn 3 (some .boolean), .methodLink RX3 66 yX3_fail, .instanceMethod yX3_fail, .selects RX3 yX3_fail yX3_fail, .code yX3_fail cX3_fail 2 (some .int)] ++ wsX30)
def wsX3_round_r1 : List Cond := [Cond.fieldLink RX3 34 "LampHillsModel" "thrown" "I", Cond.fieldLink RX3 25 "LampHillsModel" "rounds" "[I", Cond.methodLink RX3 96 yX3_isLighter, Cond.instanceMethod yX3_isLighter, Cond.selects RX3 yX3_isLighter yX3_isLighter, Cond.initialized RX3, Cond.code yX3_isLighter cX3_isLighter 2 (some .boolean), Cond.fieldLink RX3 51 "LampHillsModel" "lighters" "I", Cond.methodLink RX3 41 yX3_isIn, Cond.static yX3_isIn, Cond.code yX3_isIn cX3_isIn 3 (some .boolean), Cond.methodLink RX3 86 yX3_isLamp, Cond.instanceMethod yX3_isLamp, Cond.selects RX3 yX3_isLamp yX3_isLamp, Cond.code yX3_isLamp cX3_isLamp 2 (some .boolean), Cond.fieldLink RX3 48 "LampHillsModel" "lamps" "I", Cond.methodLink RX3 66 yX3_fail, Cond.instanceMethod yX3_fail, Cond.selects RX3 yX3_fail yX3_fail, Cond.code yX3_fail cX3_fail 2 (some .int), Cond.methodLink RX3 99 yX3_pe, Cond.instanceMethod yX3_pe, Cond.selects RX3 yX3_pe yX3_pe, Cond.code yX3_pe cX3_pe 3 (some .int)]
def wsX3_round_r2 : List Cond := [Cond.fieldLink RX3 22 "LampHillsModel" "people" "[I", Cond.methodLink RX3 102 yX3_put, Cond.instanceMethod yX3_put, Cond.selects RX3 yX3_put yX3_put, Cond.code yX3_put cX3_put 4 none]
def wsX3_round : List Cond := .code yX3_round cX3_round 6 (some .int) :: ((wsX3_round_r1 ++ wsX3_round_r2) ++ wsX30)
def wsX3_fill_r1 : List Cond := [Cond.fieldLink RX3 34 "LampHillsModel" "thrown" "I", Cond.methodLink RX3 63 Lib.Math.min.name, Cond.static Lib.Math.min.name, Cond.initialized "java/lang/Math", Cond.code Lib.Math.min.name Lib.Math.min.code 2 (some .int), Cond.methodLink RX3 96 yX3_isLighter, Cond.instanceMethod yX3_isLighter, Cond.selects RX3 yX3_isLighter yX3_isLighter, Cond.initialized RX3, Cond.code yX3_isLighter cX3_isLighter 2 (some .boolean), Cond.fieldLink RX3 51 "LampHillsModel" "lighters" "I", Cond.methodLink RX3 41 yX3_isIn, Cond.static yX3_isIn, Cond.code yX3_isIn cX3_isIn 3 (some .boolean), Cond.methodLink RX3 66 yX3_fail, Cond.instanceMethod yX3_fail, Cond.selects RX3 yX3_fail yX3_fail, Cond.code yX3_fail cX3_fail 2 (some .int), Cond.methodLink RX3 99 yX3_pe, Cond.instanceMethod yX3_pe, Cond.selects RX3 yX3_pe yX3_pe, Cond.code yX3_pe cX3_pe 3 (some .int), Cond.fieldLink RX3 22 "LampHillsModel" "people" "[I", Cond.methodLink RX3 102 yX3_put]
def wsX3_fill_r2 : List Cond := [Cond.instanceMethod yX3_put, Cond.selects RX3 yX3_put yX3_put, Cond.code yX3_put cX3_put 4 none]
def wsX3_fill : List Cond := .code yX3_fill cX3_fill 3 (some .int) :: ((wsX3_fill_r1 ++ wsX3_fill_r2) ++ wsX30)
def wsX3_away : List Cond := .code yX3_away cX3_away 3 (some .int) :: ([.fieldLink RX3 16 "LampHillsModel" "ways" "[I", .methodLink RX3 63 Lib.Math.min.name, .static Lib.Math.min.name, .initialized "java/lang/Math", .code Lib.Math.min.name Lib.Math.min.code 2 (some .int)] ++ wsX30)
def wsX3_way : List Cond := .code yX3_way cX3_way 3 (some .int) :: ([.fieldLink RX3 34 "LampHillsModel" "thrown" "I", .methodLink RX3 73 yX3_isCorner, .instanceMethod yX3_isCorner, .selects RX3 yX3_isCorner yX3_isCorner, .initialized RX3, .code yX3_isCorner cX3_isCorner 2 (some .boolean), .fieldLink RX3 38 "LampHillsModel" "corners" "I", .methodLink RX3 41 yX3_isIn, .static yX3_isIn, .code yX3_isIn cX3_isIn 3 (some .boolean), .methodLink RX3 66 yX3_fail, .instanceMethod yX3_fail, .selects RX3 yX3_fail yX3_fail, .code yX3_fail cX3_fail 2 (some .int), .methodLink RX3 105 yX3_away, .instanceMethod yX3_away, .selects RX3 yX3_away yX3_away, .code yX3_away cX3_away 3 (some .int), .fieldLink RX3 16 "LampHillsModel" "ways" "[I", .methodLink RX3 63 Lib.Math.min.name, .static Lib.Math.min.name, .initialized "java/lang/Math", .code Lib.Math.min.name Lib.Math.min.code 2 (some .int)] ++ wsX30)
def wsX3_goer : List Cond := .code yX3_goer cX3_goer 3 (some .int) :: ([.fieldLink RX3 51 "LampHillsModel" "lighters" "I", .methodLink RX3 99 yX3_pe, .instanceMethod yX3_pe, .selects RX3 yX3_pe yX3_pe, .initialized RX3, .code yX3_pe cX3_pe 3 (some .int), .fieldLink RX3 22 "LampHillsModel" "people" "[I"] ++ wsX30)
def wsX3_lampTold : List Cond := .code yX3_lampTold cX3_lampTold 3 (some .int) :: ([.methodLink RX3 89 yX3_la, .instanceMethod yX3_la, .selects RX3 yX3_la yX3_la, .initialized RX3, .code yX3_la cX3_la 3 (some .int), .fieldLink RX3 19 "LampHillsModel" "lights" "[I", .methodLink RX3 108 yX3_goer, .instanceMethod yX3_goer, .selects RX3 yX3_goer yX3_goer, .code yX3_goer cX3_goer 3 (some .int), .fieldLink RX3 51 "LampHillsModel" "lighters" "I", .methodLink RX3 99 yX3_pe, .instanceMethod yX3_pe, .selects RX3 yX3_pe yX3_pe, .code yX3_pe cX3_pe 3 (some .int), .fieldLink RX3 22 "LampHillsModel" "people" "[I"] ++ wsX30)
def wsX3_told_r1 : List Cond := [Cond.fieldLink RX3 34 "LampHillsModel" "thrown" "I", Cond.methodLink RX3 86 yX3_isLamp, Cond.instanceMethod yX3_isLamp, Cond.selects RX3 yX3_isLamp yX3_isLamp, Cond.initialized RX3, Cond.code yX3_isLamp cX3_isLamp 2 (some .boolean), Cond.fieldLink RX3 48 "LampHillsModel" "lamps" "I", Cond.methodLink RX3 41 yX3_isIn, Cond.static yX3_isIn, Cond.code yX3_isIn cX3_isIn 3 (some .boolean), Cond.methodLink RX3 111 yX3_lampTold, Cond.instanceMethod yX3_lampTold, Cond.selects RX3 yX3_lampTold yX3_lampTold, Cond.code yX3_lampTold cX3_lampTold 3 (some .int), Cond.methodLink RX3 89 yX3_la, Cond.instanceMethod yX3_la, Cond.selects RX3 yX3_la yX3_la, Cond.code yX3_la cX3_la 3 (some .int), Cond.fieldLink RX3 19 "LampHillsModel" "lights" "[I", Cond.methodLink RX3 108 yX3_goer, Cond.instanceMethod yX3_goer, Cond.selects RX3 yX3_goer yX3_goer, Cond.code yX3_goer cX3_goer 3 (some .int), Cond.fieldLink RX3 51 "LampHillsModel" "lighters" "I"]
def wsX3_told_r2 : List Cond := [Cond.methodLink RX3 99 yX3_pe, Cond.instanceMethod yX3_pe, Cond.selects RX3 yX3_pe yX3_pe, Cond.code yX3_pe cX3_pe 3 (some .int), Cond.fieldLink RX3 22 "LampHillsModel" "people" "[I", Cond.methodLink RX3 66 yX3_fail, Cond.instanceMethod yX3_fail, Cond.selects RX3 yX3_fail yX3_fail, Cond.code yX3_fail cX3_fail 2 (some .int)]
def wsX3_told : List Cond := .code yX3_told cX3_told 3 (some .int) :: ((wsX3_told_r1 ++ wsX3_told_r2) ++ wsX30)
def wsX3_lighterTold : List Cond := .code yX3_lighterTold cX3_lighterTold 4 (some .int) :: ([.arrayClass .int, .methodLink RX3 99 yX3_pe, .instanceMethod yX3_pe, .selects RX3 yX3_pe yX3_pe, .initialized RX3, .code yX3_pe cX3_pe 3 (some .int), .fieldLink RX3 22 "LampHillsModel" "people" "[I"] ++ wsX30)
def wsX3_lighter : List Cond := .code yX3_lighter cX3_lighter 3 (some .int) :: ([.fieldLink RX3 34 "LampHillsModel" "thrown" "I", .methodLink RX3 96 yX3_isLighter, .instanceMethod yX3_isLighter, .selects RX3 yX3_isLighter yX3_isLighter, .initialized RX3, .code yX3_isLighter cX3_isLighter 2 (some .boolean), .fieldLink RX3 51 "LampHillsModel" "lighters" "I", .methodLink RX3 41 yX3_isIn, .static yX3_isIn, .code yX3_isIn cX3_isIn 3 (some .boolean), .methodLink RX3 114 yX3_lighterTold, .instanceMethod yX3_lighterTold, .selects RX3 yX3_lighterTold yX3_lighterTold, .code yX3_lighterTold cX3_lighterTold 4 (some .int), .arrayClass .int, .methodLink RX3 99 yX3_pe, .instanceMethod yX3_pe, .selects RX3 yX3_pe yX3_pe, .code yX3_pe cX3_pe 3 (some .int), .fieldLink RX3 22 "LampHillsModel" "people" "[I", .methodLink RX3 66 yX3_fail, .instanceMethod yX3_fail, .selects RX3 yX3_fail yX3_fail, .code yX3_fail cX3_fail 2 (some .int)] ++ wsX30)
def wsX3_burns : List Cond := .code yX3_burns cX3_burns 4 (some .int) :: ([.fieldLink RX3 48 "LampHillsModel" "lamps" "I", .methodLink RX3 89 yX3_la, .instanceMethod yX3_la, .selects RX3 yX3_la yX3_la, .initialized RX3, .code yX3_la cX3_la 3 (some .int), .fieldLink RX3 19 "LampHillsModel" "lights" "[I"] ++ wsX30)
def wsX3_burning : List Cond := .code yX3_burning cX3_burning 2 (some .int) :: ([.fieldLink RX3 34 "LampHillsModel" "thrown" "I", .methodLink RX3 83 yX3_isStreet, .instanceMethod yX3_isStreet, .selects RX3 yX3_isStreet yX3_isStreet, .initialized RX3, .code yX3_isStreet cX3_isStreet 2 (some .boolean), .fieldLink RX3 45 "LampHillsModel" "streets" "I", .methodLink RX3 41 yX3_isIn, .static yX3_isIn, .code yX3_isIn cX3_isIn 3 (some .boolean), .methodLink RX3 117 yX3_burns, .instanceMethod yX3_burns, .selects RX3 yX3_burns yX3_burns, .code yX3_burns cX3_burns 4 (some .int), .fieldLink RX3 48 "LampHillsModel" "lamps" "I", .methodLink RX3 89 yX3_la, .instanceMethod yX3_la, .selects RX3 yX3_la yX3_la, .code yX3_la cX3_la 3 (some .int), .fieldLink RX3 19 "LampHillsModel" "lights" "[I", .methodLink RX3 66 yX3_fail, .instanceMethod yX3_fail, .selects RX3 yX3_fail yX3_fail, .code yX3_fail cX3_fail 2 (some .int)] ++ wsX30)
def wsX3_all : List Cond := .code yX3_all cX3_all 4 (some .int) :: ([.fieldLink RX3 48 "LampHillsModel" "lamps" "I", .methodLink RX3 89 yX3_la, .instanceMethod yX3_la, .selects RX3 yX3_la yX3_la, .initialized RX3, .code yX3_la cX3_la 3 (some .int), .fieldLink RX3 19 "LampHillsModel" "lights" "[I"] ++ wsX30)
def wsX3_dark : List Cond := .code yX3_dark cX3_dark 3 (some .int) :: ([.fieldLink RX3 45 "LampHillsModel" "streets" "I", .methodLink RX3 117 yX3_burns, .instanceMethod yX3_burns, .selects RX3 yX3_burns yX3_burns, .initialized RX3, .code yX3_burns cX3_burns 4 (some .int), .fieldLink RX3 48 "LampHillsModel" "lamps" "I", .methodLink RX3 89 yX3_la, .instanceMethod yX3_la, .selects RX3 yX3_la yX3_la, .code yX3_la cX3_la 3 (some .int), .fieldLink RX3 19 "LampHillsModel" "lights" "[I"] ++ wsX30)
def wsX3_counted : List Cond := .code yX3_counted cX3_counted 3 (some .int) :: ([.arrayClass .int, .fieldLink RX3 31 "LampHillsModel" "numbers" "[I", .fieldLink RX3 38 "LampHillsModel" "corners" "I", .fieldLink RX3 45 "LampHillsModel" "streets" "I", .fieldLink RX3 48 "LampHillsModel" "lamps" "I", .fieldLink RX3 51 "LampHillsModel" "lighters" "I", .methodLink RX3 120 yX3_all, .instanceMethod yX3_all, .selects RX3 yX3_all yX3_all, .initialized RX3, .code yX3_all cX3_all 4 (some .int), .methodLink RX3 89 yX3_la, .instanceMethod yX3_la, .selects RX3 yX3_la yX3_la, .code yX3_la cX3_la 3 (some .int), .fieldLink RX3 19 "LampHillsModel" "lights" "[I", .methodLink RX3 123 yX3_dark, .instanceMethod yX3_dark, .selects RX3 yX3_dark yX3_dark, .code yX3_dark cX3_dark 3 (some .int), .methodLink RX3 117 yX3_burns, .instanceMethod yX3_burns, .selects RX3 yX3_burns yX3_burns, .code yX3_burns cX3_burns 4 (some .int)] ++ wsX30)
def wsX3_count_r1 : List Cond := [Cond.fieldLink RX3 34 "LampHillsModel" "thrown" "I", Cond.methodLink RX3 41 yX3_isIn, Cond.static yX3_isIn, Cond.initialized RX3, Cond.code yX3_isIn cX3_isIn 3 (some .boolean), Cond.methodLink RX3 127 yX3_counted, Cond.instanceMethod yX3_counted, Cond.selects RX3 yX3_counted yX3_counted, Cond.code yX3_counted cX3_counted 3 (some .int), Cond.arrayClass .int, Cond.fieldLink RX3 31 "LampHillsModel" "numbers" "[I", Cond.fieldLink RX3 38 "LampHillsModel" "corners" "I", Cond.fieldLink RX3 45 "LampHillsModel" "streets" "I", Cond.fieldLink RX3 48 "LampHillsModel" "lamps" "I", Cond.fieldLink RX3 51 "LampHillsModel" "lighters" "I", Cond.methodLink RX3 120 yX3_all, Cond.instanceMethod yX3_all, Cond.selects RX3 yX3_all yX3_all, Cond.code yX3_all cX3_all 4 (some .int), Cond.methodLink RX3 89 yX3_la, Cond.instanceMethod yX3_la, Cond.selects RX3 yX3_la yX3_la, Cond.code yX3_la cX3_la 3 (some .int), Cond.fieldLink RX3 19 "LampHillsModel" "lights" "[I"]
def wsX3_count_r2 : List Cond := [Cond.methodLink RX3 123 yX3_dark, Cond.instanceMethod yX3_dark, Cond.selects RX3 yX3_dark yX3_dark, Cond.code yX3_dark cX3_dark 3 (some .int), Cond.methodLink RX3 117 yX3_burns, Cond.instanceMethod yX3_burns, Cond.selects RX3 yX3_burns yX3_burns, Cond.code yX3_burns cX3_burns 4 (some .int), Cond.methodLink RX3 66 yX3_fail, Cond.instanceMethod yX3_fail, Cond.selects RX3 yX3_fail yX3_fail, Cond.code yX3_fail cX3_fail 2 (some .int)]
def wsX3_count : List Cond := .code yX3_count cX3_count 2 (some .int) :: ((wsX3_count_r1 ++ wsX3_count_r2) ++ wsX30)
def wsX3_corner__r1 : List Cond := [Cond.methodLink RX3 89 yX3_la, Cond.instanceMethod yX3_la, Cond.selects RX3 yX3_la yX3_la, Cond.initialized RX3, Cond.code yX3_la cX3_la 3 (some .int), Cond.fieldLink RX3 19 "LampHillsModel" "lights" "[I", Cond.methodLink RX3 54 yX3_ro, Cond.instanceMethod yX3_ro, Cond.selects RX3 yX3_ro yX3_ro, Cond.code yX3_ro cX3_ro 3 (some .int), Cond.fieldLink RX3 13 "LampHillsModel" "roads" "[I", Cond.methodLink RX3 99 yX3_pe, Cond.instanceMethod yX3_pe, Cond.selects RX3 yX3_pe yX3_pe, Cond.code yX3_pe cX3_pe 3 (some .int), Cond.fieldLink RX3 22 "LampHillsModel" "people" "[I", Cond.methodLink RX3 105 yX3_away, Cond.instanceMethod yX3_away, Cond.selects RX3 yX3_away yX3_away, Cond.code yX3_away cX3_away 3 (some .int), Cond.fieldLink RX3 16 "LampHillsModel" "ways" "[I", Cond.methodLink RX3 63 Lib.Math.min.name, Cond.static Lib.Math.min.name, Cond.initialized "java/lang/Math"]
def wsX3_corner__r2 : List Cond := [Cond.code Lib.Math.min.name Lib.Math.min.code 2 (some .int)]
def wsX3_corner_ : List Cond := .code yX3_corner_ cX3_corner_ 6 (some .int) :: ((wsX3_corner__r1 ++ wsX3_corner__r2) ++ wsX30)
def wsX3_look_r1 : List Cond := [Cond.fieldLink RX3 25 "LampHillsModel" "rounds" "[I", Cond.methodLink RX3 99 yX3_pe, Cond.instanceMethod yX3_pe, Cond.selects RX3 yX3_pe yX3_pe, Cond.initialized RX3, Cond.code yX3_pe cX3_pe 3 (some .int), Cond.fieldLink RX3 22 "LampHillsModel" "people" "[I", Cond.methodLink RX3 89 yX3_la, Cond.instanceMethod yX3_la, Cond.selects RX3 yX3_la yX3_la, Cond.code yX3_la cX3_la 3 (some .int), Cond.fieldLink RX3 19 "LampHillsModel" "lights" "[I", Cond.methodLink RX3 108 yX3_goer, Cond.instanceMethod yX3_goer, Cond.selects RX3 yX3_goer yX3_goer, Cond.code yX3_goer cX3_goer 3 (some .int), Cond.fieldLink RX3 51 "LampHillsModel" "lighters" "I", Cond.methodLink RX3 130 yX3_corner_, Cond.instanceMethod yX3_corner_, Cond.selects RX3 yX3_corner_ yX3_corner_, Cond.code yX3_corner_ cX3_corner_ 6 (some .int), Cond.methodLink RX3 54 yX3_ro, Cond.instanceMethod yX3_ro, Cond.selects RX3 yX3_ro yX3_ro]
def wsX3_look_r2 : List Cond := [Cond.code yX3_ro cX3_ro 3 (some .int), Cond.fieldLink RX3 13 "LampHillsModel" "roads" "[I", Cond.methodLink RX3 105 yX3_away, Cond.instanceMethod yX3_away, Cond.selects RX3 yX3_away yX3_away, Cond.code yX3_away cX3_away 3 (some .int), Cond.fieldLink RX3 16 "LampHillsModel" "ways" "[I", Cond.methodLink RX3 63 Lib.Math.min.name, Cond.static Lib.Math.min.name, Cond.initialized "java/lang/Math", Cond.code Lib.Math.min.name Lib.Math.min.code 2 (some .int), Cond.methodLink RX3 102 yX3_put, Cond.instanceMethod yX3_put, Cond.selects RX3 yX3_put yX3_put, Cond.code yX3_put cX3_put 4 none]
def wsX3_look : List Cond := .code yX3_look cX3_look 6 none :: ((wsX3_look_r1 ++ wsX3_look_r2) ++ wsX30)
def wsX3_goOn_r1 : List Cond := [Cond.methodLink RX3 63 Lib.Math.min.name, Cond.static Lib.Math.min.name, Cond.initialized "java/lang/Math", Cond.code Lib.Math.min.name Lib.Math.min.code 2 (some .int), Cond.methodLink RX3 99 yX3_pe, Cond.instanceMethod yX3_pe, Cond.selects RX3 yX3_pe yX3_pe, Cond.initialized RX3, Cond.code yX3_pe cX3_pe 3 (some .int), Cond.fieldLink RX3 22 "LampHillsModel" "people" "[I", Cond.methodLink RX3 133 yX3_look, Cond.instanceMethod yX3_look, Cond.selects RX3 yX3_look yX3_look, Cond.code yX3_look cX3_look 6 none, Cond.fieldLink RX3 25 "LampHillsModel" "rounds" "[I", Cond.methodLink RX3 89 yX3_la, Cond.instanceMethod yX3_la, Cond.selects RX3 yX3_la yX3_la, Cond.code yX3_la cX3_la 3 (some .int), Cond.fieldLink RX3 19 "LampHillsModel" "lights" "[I", Cond.methodLink RX3 108 yX3_goer, Cond.instanceMethod yX3_goer, Cond.selects RX3 yX3_goer yX3_goer, Cond.code yX3_goer cX3_goer 3 (some .int)]
def wsX3_goOn_r2 : List Cond := [Cond.fieldLink RX3 51 "LampHillsModel" "lighters" "I", Cond.methodLink RX3 130 yX3_corner_, Cond.instanceMethod yX3_corner_, Cond.selects RX3 yX3_corner_ yX3_corner_, Cond.code yX3_corner_ cX3_corner_ 6 (some .int), Cond.methodLink RX3 54 yX3_ro, Cond.instanceMethod yX3_ro, Cond.selects RX3 yX3_ro yX3_ro, Cond.code yX3_ro cX3_ro 3 (some .int), Cond.fieldLink RX3 13 "LampHillsModel" "roads" "[I", Cond.methodLink RX3 105 yX3_away, Cond.instanceMethod yX3_away, Cond.selects RX3 yX3_away yX3_away, Cond.code yX3_away cX3_away 3 (some .int), Cond.fieldLink RX3 16 "LampHillsModel" "ways" "[I", Cond.methodLink RX3 102 yX3_put, Cond.instanceMethod yX3_put, Cond.selects RX3 yX3_put yX3_put, Cond.code yX3_put cX3_put 4 none, Cond.methodLink RX3 92 yX3_setLamp, Cond.instanceMethod yX3_setLamp, Cond.selects RX3 yX3_setLamp yX3_setLamp, Cond.code yX3_setLamp cX3_setLamp 4 none]
def wsX3_goOn : List Cond := .code yX3_goOn cX3_goOn 4 (some .int) :: ((wsX3_goOn_r1 ++ wsX3_goOn_r2) ++ wsX30)
def wsX3_gust : List Cond := .code yX3_gust cX3_gust 3 (some .int) :: ([.fieldLink RX3 9 "LampHillsModel" "heights" "[I", .methodLink RX3 58 Lib.Math.max.name, .static Lib.Math.max.name, .initialized "java/lang/Math", .code Lib.Math.max.name Lib.Math.max.code 2 (some .int), .methodLink RX3 89 yX3_la, .instanceMethod yX3_la, .selects RX3 yX3_la yX3_la, .initialized RX3, .code yX3_la cX3_la 3 (some .int), .fieldLink RX3 19 "LampHillsModel" "lights" "[I", .methodLink RX3 54 yX3_ro, .instanceMethod yX3_ro, .selects RX3 yX3_ro yX3_ro, .code yX3_ro cX3_ro 3 (some .int), .fieldLink RX3 13 "LampHillsModel" "roads" "[I"] ++ wsX30)
def wsX3_burn_r1 : List Cond := [Cond.methodLink RX3 63 Lib.Math.min.name, Cond.static Lib.Math.min.name, Cond.initialized "java/lang/Math", Cond.code Lib.Math.min.name Lib.Math.min.code 2 (some .int), Cond.fieldLink RX3 31 "LampHillsModel" "numbers" "[I", Cond.fieldLink RX3 28 "LampHillsModel" "winds" "[I", Cond.methodLink RX3 89 yX3_la, Cond.instanceMethod yX3_la, Cond.selects RX3 yX3_la yX3_la, Cond.initialized RX3, Cond.code yX3_la cX3_la 3 (some .int), Cond.fieldLink RX3 19 "LampHillsModel" "lights" "[I", Cond.methodLink RX3 92 yX3_setLamp, Cond.instanceMethod yX3_setLamp, Cond.selects RX3 yX3_setLamp yX3_setLamp, Cond.code yX3_setLamp cX3_setLamp 4 none, Cond.methodLink RX3 137 yX3_gust, Cond.instanceMethod yX3_gust, Cond.selects RX3 yX3_gust yX3_gust, Cond.code yX3_gust cX3_gust 3 (some .int), Cond.fieldLink RX3 9 "LampHillsModel" "heights" "[I", Cond.methodLink RX3 58 Lib.Math.max.name, Cond.static Lib.Math.max.name, Cond.code Lib.Math.max.name Lib.Math.max.code 2 (some .int)]
def wsX3_burn_r2 : List Cond := [Cond.methodLink RX3 54 yX3_ro, Cond.instanceMethod yX3_ro, Cond.selects RX3 yX3_ro yX3_ro, Cond.code yX3_ro cX3_ro 3 (some .int), Cond.fieldLink RX3 13 "LampHillsModel" "roads" "[I"]
def wsX3_burn : List Cond := .code yX3_burn cX3_burn 3 none :: ((wsX3_burn_r1 ++ wsX3_burn_r2) ++ wsX30)
def wsX3_isOver : List Cond := .code yX3_isOver cX3_isOver 1 (some .boolean) :: ([.fieldLink RX3 31 "LampHillsModel" "numbers" "[I"] ++ wsX30)
def wsX3_minuteOn_r1 : List Cond := [Cond.fieldLink RX3 51 "LampHillsModel" "lighters" "I", Cond.fieldLink RX3 48 "LampHillsModel" "lamps" "I", Cond.fieldLink RX3 31 "LampHillsModel" "numbers" "[I", Cond.methodLink RX3 140 yX3_goOn, Cond.instanceMethod yX3_goOn, Cond.selects RX3 yX3_goOn yX3_goOn, Cond.initialized RX3, Cond.code yX3_goOn cX3_goOn 4 (some .int), Cond.methodLink RX3 63 Lib.Math.min.name, Cond.static Lib.Math.min.name, Cond.initialized "java/lang/Math", Cond.code Lib.Math.min.name Lib.Math.min.code 2 (some .int), Cond.methodLink RX3 99 yX3_pe, Cond.instanceMethod yX3_pe, Cond.selects RX3 yX3_pe yX3_pe, Cond.code yX3_pe cX3_pe 3 (some .int), Cond.fieldLink RX3 22 "LampHillsModel" "people" "[I", Cond.methodLink RX3 133 yX3_look, Cond.instanceMethod yX3_look, Cond.selects RX3 yX3_look yX3_look, Cond.code yX3_look cX3_look 6 none, Cond.fieldLink RX3 25 "LampHillsModel" "rounds" "[I", Cond.methodLink RX3 89 yX3_la, Cond.instanceMethod yX3_la]
def wsX3_minuteOn_r2 : List Cond := [Cond.selects RX3 yX3_la yX3_la, Cond.code yX3_la cX3_la 3 (some .int), Cond.fieldLink RX3 19 "LampHillsModel" "lights" "[I", Cond.methodLink RX3 108 yX3_goer, Cond.instanceMethod yX3_goer, Cond.selects RX3 yX3_goer yX3_goer, Cond.code yX3_goer cX3_goer 3 (some .int), Cond.methodLink RX3 130 yX3_corner_, Cond.instanceMethod yX3_corner_, Cond.selects RX3 yX3_corner_ yX3_corner_, Cond.code yX3_corner_ cX3_corner_ 6 (some .int), Cond.methodLink RX3 54 yX3_ro, Cond.instanceMethod yX3_ro, Cond.selects RX3 yX3_ro yX3_ro, Cond.code yX3_ro cX3_ro 3 (some .int), Cond.fieldLink RX3 13 "LampHillsModel" "roads" "[I", Cond.methodLink RX3 105 yX3_away, Cond.instanceMethod yX3_away, Cond.selects RX3 yX3_away yX3_away, Cond.code yX3_away cX3_away 3 (some .int), Cond.fieldLink RX3 16 "LampHillsModel" "ways" "[I", Cond.methodLink RX3 102 yX3_put, Cond.instanceMethod yX3_put, Cond.selects RX3 yX3_put yX3_put]
def wsX3_minuteOn_r3 : List Cond := [Cond.code yX3_put cX3_put 4 none, Cond.methodLink RX3 92 yX3_setLamp, Cond.instanceMethod yX3_setLamp, Cond.selects RX3 yX3_setLamp yX3_setLamp, Cond.code yX3_setLamp cX3_setLamp 4 none, Cond.methodLink RX3 143 yX3_burn, Cond.instanceMethod yX3_burn, Cond.selects RX3 yX3_burn yX3_burn, Cond.code yX3_burn cX3_burn 3 none, Cond.fieldLink RX3 28 "LampHillsModel" "winds" "[I", Cond.methodLink RX3 137 yX3_gust, Cond.instanceMethod yX3_gust, Cond.selects RX3 yX3_gust yX3_gust, Cond.code yX3_gust cX3_gust 3 (some .int), Cond.fieldLink RX3 9 "LampHillsModel" "heights" "[I", Cond.methodLink RX3 58 Lib.Math.max.name, Cond.static Lib.Math.max.name, Cond.code Lib.Math.max.name Lib.Math.max.code 2 (some .int)]
def wsX3_minuteOn : List Cond := .code yX3_minuteOn cX3_minuteOn 4 (some .int) :: ((wsX3_minuteOn_r1 ++ (wsX3_minuteOn_r2 ++ wsX3_minuteOn_r3)) ++ wsX30)
def wsX3_minutesOn_r1 : List Cond := [Cond.methodLink RX3 146 yX3_isOver, Cond.instanceMethod yX3_isOver, Cond.selects RX3 yX3_isOver yX3_isOver, Cond.initialized RX3, Cond.code yX3_isOver cX3_isOver 1 (some .boolean), Cond.fieldLink RX3 31 "LampHillsModel" "numbers" "[I", Cond.methodLink RX3 150 yX3_minuteOn, Cond.instanceMethod yX3_minuteOn, Cond.selects RX3 yX3_minuteOn yX3_minuteOn, Cond.code yX3_minuteOn cX3_minuteOn 4 (some .int), Cond.fieldLink RX3 51 "LampHillsModel" "lighters" "I", Cond.fieldLink RX3 48 "LampHillsModel" "lamps" "I", Cond.methodLink RX3 140 yX3_goOn, Cond.instanceMethod yX3_goOn, Cond.selects RX3 yX3_goOn yX3_goOn, Cond.code yX3_goOn cX3_goOn 4 (some .int), Cond.methodLink RX3 63 Lib.Math.min.name, Cond.static Lib.Math.min.name, Cond.initialized "java/lang/Math", Cond.code Lib.Math.min.name Lib.Math.min.code 2 (some .int), Cond.methodLink RX3 99 yX3_pe, Cond.instanceMethod yX3_pe, Cond.selects RX3 yX3_pe yX3_pe, Cond.code yX3_pe cX3_pe 3 (some .int)]
def wsX3_minutesOn_r2 : List Cond := [Cond.fieldLink RX3 22 "LampHillsModel" "people" "[I", Cond.methodLink RX3 133 yX3_look, Cond.instanceMethod yX3_look, Cond.selects RX3 yX3_look yX3_look, Cond.code yX3_look cX3_look 6 none, Cond.fieldLink RX3 25 "LampHillsModel" "rounds" "[I", Cond.methodLink RX3 89 yX3_la, Cond.instanceMethod yX3_la, Cond.selects RX3 yX3_la yX3_la, Cond.code yX3_la cX3_la 3 (some .int), Cond.fieldLink RX3 19 "LampHillsModel" "lights" "[I", Cond.methodLink RX3 108 yX3_goer, Cond.instanceMethod yX3_goer, Cond.selects RX3 yX3_goer yX3_goer, Cond.code yX3_goer cX3_goer 3 (some .int), Cond.methodLink RX3 130 yX3_corner_, Cond.instanceMethod yX3_corner_, Cond.selects RX3 yX3_corner_ yX3_corner_, Cond.code yX3_corner_ cX3_corner_ 6 (some .int), Cond.methodLink RX3 54 yX3_ro, Cond.instanceMethod yX3_ro, Cond.selects RX3 yX3_ro yX3_ro, Cond.code yX3_ro cX3_ro 3 (some .int), Cond.fieldLink RX3 13 "LampHillsModel" "roads" "[I"]
def wsX3_minutesOn_r3 : List Cond := [Cond.methodLink RX3 105 yX3_away, Cond.instanceMethod yX3_away, Cond.selects RX3 yX3_away yX3_away, Cond.code yX3_away cX3_away 3 (some .int), Cond.fieldLink RX3 16 "LampHillsModel" "ways" "[I", Cond.methodLink RX3 102 yX3_put, Cond.instanceMethod yX3_put, Cond.selects RX3 yX3_put yX3_put, Cond.code yX3_put cX3_put 4 none, Cond.methodLink RX3 92 yX3_setLamp, Cond.instanceMethod yX3_setLamp, Cond.selects RX3 yX3_setLamp yX3_setLamp, Cond.code yX3_setLamp cX3_setLamp 4 none, Cond.methodLink RX3 143 yX3_burn, Cond.instanceMethod yX3_burn, Cond.selects RX3 yX3_burn yX3_burn, Cond.code yX3_burn cX3_burn 3 none, Cond.fieldLink RX3 28 "LampHillsModel" "winds" "[I", Cond.methodLink RX3 137 yX3_gust, Cond.instanceMethod yX3_gust, Cond.selects RX3 yX3_gust yX3_gust, Cond.code yX3_gust cX3_gust 3 (some .int), Cond.fieldLink RX3 9 "LampHillsModel" "heights" "[I", Cond.methodLink RX3 58 Lib.Math.max.name]
def wsX3_minutesOn_r4 : List Cond := [Cond.static Lib.Math.max.name, Cond.code Lib.Math.max.name Lib.Math.max.code 2 (some .int)]
def wsX3_minutesOn : List Cond := .code yX3_minutesOn cX3_minutesOn 3 none :: ((wsX3_minutesOn_r1 ++ (wsX3_minutesOn_r2 ++ (wsX3_minutesOn_r3 ++ wsX3_minutesOn_r4))) ++ wsX30)
def wsX3_pass_r1 : List Cond := [Cond.fieldLink RX3 34 "LampHillsModel" "thrown" "I", Cond.methodLink RX3 41 yX3_isIn, Cond.static yX3_isIn, Cond.initialized RX3, Cond.code yX3_isIn cX3_isIn 3 (some .boolean), Cond.methodLink RX3 66 yX3_fail, Cond.instanceMethod yX3_fail, Cond.selects RX3 yX3_fail yX3_fail, Cond.code yX3_fail cX3_fail 2 (some .int), Cond.methodLink RX3 120 yX3_all, Cond.instanceMethod yX3_all, Cond.selects RX3 yX3_all yX3_all, Cond.code yX3_all cX3_all 4 (some .int), Cond.fieldLink RX3 48 "LampHillsModel" "lamps" "I", Cond.methodLink RX3 89 yX3_la, Cond.instanceMethod yX3_la, Cond.selects RX3 yX3_la yX3_la, Cond.code yX3_la cX3_la 3 (some .int), Cond.fieldLink RX3 19 "LampHillsModel" "lights" "[I", Cond.methodLink RX3 153 yX3_minutesOn, Cond.instanceMethod yX3_minutesOn, Cond.selects RX3 yX3_minutesOn yX3_minutesOn, Cond.code yX3_minutesOn cX3_minutesOn 3 none, Cond.methodLink RX3 146 yX3_isOver]
def wsX3_pass_r2 : List Cond := [Cond.instanceMethod yX3_isOver, Cond.selects RX3 yX3_isOver yX3_isOver, Cond.code yX3_isOver cX3_isOver 1 (some .boolean), Cond.fieldLink RX3 31 "LampHillsModel" "numbers" "[I", Cond.methodLink RX3 150 yX3_minuteOn, Cond.instanceMethod yX3_minuteOn, Cond.selects RX3 yX3_minuteOn yX3_minuteOn, Cond.code yX3_minuteOn cX3_minuteOn 4 (some .int), Cond.fieldLink RX3 51 "LampHillsModel" "lighters" "I", Cond.methodLink RX3 140 yX3_goOn, Cond.instanceMethod yX3_goOn, Cond.selects RX3 yX3_goOn yX3_goOn, Cond.code yX3_goOn cX3_goOn 4 (some .int), Cond.methodLink RX3 63 Lib.Math.min.name, Cond.static Lib.Math.min.name, Cond.initialized "java/lang/Math", Cond.code Lib.Math.min.name Lib.Math.min.code 2 (some .int), Cond.methodLink RX3 99 yX3_pe, Cond.instanceMethod yX3_pe, Cond.selects RX3 yX3_pe yX3_pe, Cond.code yX3_pe cX3_pe 3 (some .int), Cond.fieldLink RX3 22 "LampHillsModel" "people" "[I", Cond.methodLink RX3 133 yX3_look, Cond.instanceMethod yX3_look]
def wsX3_pass_r3 : List Cond := [Cond.selects RX3 yX3_look yX3_look, Cond.code yX3_look cX3_look 6 none, Cond.fieldLink RX3 25 "LampHillsModel" "rounds" "[I", Cond.methodLink RX3 108 yX3_goer, Cond.instanceMethod yX3_goer, Cond.selects RX3 yX3_goer yX3_goer, Cond.code yX3_goer cX3_goer 3 (some .int), Cond.methodLink RX3 130 yX3_corner_, Cond.instanceMethod yX3_corner_, Cond.selects RX3 yX3_corner_ yX3_corner_, Cond.code yX3_corner_ cX3_corner_ 6 (some .int), Cond.methodLink RX3 54 yX3_ro, Cond.instanceMethod yX3_ro, Cond.selects RX3 yX3_ro yX3_ro, Cond.code yX3_ro cX3_ro 3 (some .int), Cond.fieldLink RX3 13 "LampHillsModel" "roads" "[I", Cond.methodLink RX3 105 yX3_away, Cond.instanceMethod yX3_away, Cond.selects RX3 yX3_away yX3_away, Cond.code yX3_away cX3_away 3 (some .int), Cond.fieldLink RX3 16 "LampHillsModel" "ways" "[I", Cond.methodLink RX3 102 yX3_put, Cond.instanceMethod yX3_put, Cond.selects RX3 yX3_put yX3_put]
def wsX3_pass_r4 : List Cond := [Cond.code yX3_put cX3_put 4 none, Cond.methodLink RX3 92 yX3_setLamp, Cond.instanceMethod yX3_setLamp, Cond.selects RX3 yX3_setLamp yX3_setLamp, Cond.code yX3_setLamp cX3_setLamp 4 none, Cond.methodLink RX3 143 yX3_burn, Cond.instanceMethod yX3_burn, Cond.selects RX3 yX3_burn yX3_burn, Cond.code yX3_burn cX3_burn 3 none, Cond.fieldLink RX3 28 "LampHillsModel" "winds" "[I", Cond.methodLink RX3 137 yX3_gust, Cond.instanceMethod yX3_gust, Cond.selects RX3 yX3_gust yX3_gust, Cond.code yX3_gust cX3_gust 3 (some .int), Cond.fieldLink RX3 9 "LampHillsModel" "heights" "[I", Cond.methodLink RX3 58 Lib.Math.max.name, Cond.static Lib.Math.max.name, Cond.code Lib.Math.max.name Lib.Math.max.code 2 (some .int)]
def wsX3_pass : List Cond := .code yX3_pass cX3_pass 3 (some .int) :: ((wsX3_pass_r1 ++ (wsX3_pass_r2 ++ (wsX3_pass_r3 ++ wsX3_pass_r4))) ++ wsX30)
def wsX3_dawn_r1 : List Cond := [Cond.fieldLink RX3 34 "LampHillsModel" "thrown" "I", Cond.fieldLink RX3 48 "LampHillsModel" "lamps" "I", Cond.fieldLink RX3 51 "LampHillsModel" "lighters" "I", Cond.fieldLink RX3 31 "LampHillsModel" "numbers" "[I", Cond.methodLink RX3 146 yX3_isOver, Cond.instanceMethod yX3_isOver, Cond.selects RX3 yX3_isOver yX3_isOver, Cond.initialized RX3, Cond.code yX3_isOver cX3_isOver 1 (some .boolean), Cond.methodLink RX3 66 yX3_fail, Cond.instanceMethod yX3_fail, Cond.selects RX3 yX3_fail yX3_fail, Cond.code yX3_fail cX3_fail 2 (some .int), Cond.methodLink RX3 120 yX3_all, Cond.instanceMethod yX3_all, Cond.selects RX3 yX3_all yX3_all, Cond.code yX3_all cX3_all 4 (some .int), Cond.methodLink RX3 89 yX3_la, Cond.instanceMethod yX3_la, Cond.selects RX3 yX3_la yX3_la, Cond.code yX3_la cX3_la 3 (some .int), Cond.fieldLink RX3 19 "LampHillsModel" "lights" "[I", Cond.methodLink RX3 92 yX3_setLamp, Cond.instanceMethod yX3_setLamp]
def wsX3_dawn_r2 : List Cond := [Cond.selects RX3 yX3_setLamp yX3_setLamp, Cond.code yX3_setLamp cX3_setLamp 4 none, Cond.methodLink RX3 99 yX3_pe, Cond.instanceMethod yX3_pe, Cond.selects RX3 yX3_pe yX3_pe, Cond.code yX3_pe cX3_pe 3 (some .int), Cond.fieldLink RX3 22 "LampHillsModel" "people" "[I", Cond.methodLink RX3 102 yX3_put, Cond.instanceMethod yX3_put, Cond.selects RX3 yX3_put yX3_put, Cond.code yX3_put cX3_put 4 none]
def wsX3_dawn : List Cond := .code yX3_dawn cX3_dawn 3 (some .int) :: ((wsX3_dawn_r1 ++ wsX3_dawn_r2) ++ wsX30)
def wsX3_kept : List Cond := .code yX3_kept cX3_kept 1 (some (.array (.array .int))) :: ([.classLink RX3 156 "[I", .fieldLink RX3 19 "LampHillsModel" "lights" "[I", .methodLink RX3 157 ⟨"[I", "clone", "()Ljava/lang/Object;"⟩, .sameMethod "[I" "java/lang/Object" "clone" "()Ljava/lang/Object;", .native ⟨"java/lang/Object", "clone", "()Ljava/lang/Object;"⟩, .instanceMethod ⟨"java/lang/Object", "clone", "()Ljava/lang/Object;"⟩, .selects "[I" ⟨"[I", "clone", "()Ljava/lang/Object;"⟩ ⟨"java/lang/Object", "clone", "()Ljava/lang/Object;"⟩, .fieldLink RX3 22 "LampHillsModel" "people" "[I", .fieldLink RX3 31 "LampHillsModel" "numbers" "[I"] ++ wsX30)
def wsX3_bringBack : List Cond := .code yX3_bringBack cX3_bringBack 2 none :: ([.fieldLink RX3 19 "LampHillsModel" "lights" "[I", .methodLink RX3 77 arraycopyName, .native arraycopyName, .static arraycopyName, .initialized "java/lang/System", .fieldLink RX3 22 "LampHillsModel" "people" "[I", .fieldLink RX3 31 "LampHillsModel" "numbers" "[I"] ++ wsX30)
def wsX3_comes_r1 : List Cond := [Cond.fieldLink RX3 34 "LampHillsModel" "thrown" "I", Cond.methodLink RX3 86 yX3_isLamp, Cond.instanceMethod yX3_isLamp, Cond.selects RX3 yX3_isLamp yX3_isLamp, Cond.initialized RX3, Cond.code yX3_isLamp cX3_isLamp 2 (some .boolean), Cond.fieldLink RX3 48 "LampHillsModel" "lamps" "I", Cond.methodLink RX3 41 yX3_isIn, Cond.static yX3_isIn, Cond.code yX3_isIn cX3_isIn 3 (some .boolean), Cond.methodLink RX3 66 yX3_fail, Cond.instanceMethod yX3_fail, Cond.selects RX3 yX3_fail yX3_fail, Cond.code yX3_fail cX3_fail 2 (some .int), Cond.methodLink RX3 161 yX3_kept, Cond.instanceMethod yX3_kept, Cond.selects RX3 yX3_kept yX3_kept, Cond.code yX3_kept cX3_kept 1 (some (.array (.array .int))), Cond.classLink RX3 156 "[I", Cond.fieldLink RX3 19 "LampHillsModel" "lights" "[I", Cond.methodLink RX3 157 ⟨"[I", "clone", "()Ljava/lang/Object;"⟩, Cond.sameMethod "[I" "java/lang/Object" "clone" "()Ljava/lang/Object;", Cond.native ⟨"java/lang/Object", "clone", "()Ljava/lang/Object;"⟩, Cond.instanceMethod ⟨"java/lang/Object", "clone", "()Ljava/lang/Object;"⟩]
def wsX3_comes_r2 : List Cond := [Cond.selects "[I" ⟨"[I", "clone", "()Ljava/lang/Object;"⟩ ⟨"java/lang/Object", "clone", "()Ljava/lang/Object;"⟩, Cond.fieldLink RX3 22 "LampHillsModel" "people" "[I", Cond.fieldLink RX3 31 "LampHillsModel" "numbers" "[I", Cond.methodLink RX3 146 yX3_isOver, Cond.instanceMethod yX3_isOver, Cond.selects RX3 yX3_isOver yX3_isOver, Cond.code yX3_isOver cX3_isOver 1 (some .boolean), Cond.methodLink RX3 150 yX3_minuteOn, Cond.instanceMethod yX3_minuteOn, Cond.selects RX3 yX3_minuteOn yX3_minuteOn, Cond.code yX3_minuteOn cX3_minuteOn 4 (some .int), Cond.fieldLink RX3 51 "LampHillsModel" "lighters" "I", Cond.methodLink RX3 140 yX3_goOn, Cond.instanceMethod yX3_goOn, Cond.selects RX3 yX3_goOn yX3_goOn, Cond.code yX3_goOn cX3_goOn 4 (some .int), Cond.methodLink RX3 63 Lib.Math.min.name, Cond.static Lib.Math.min.name, Cond.initialized "java/lang/Math", Cond.code Lib.Math.min.name Lib.Math.min.code 2 (some .int), Cond.methodLink RX3 99 yX3_pe, Cond.instanceMethod yX3_pe, Cond.selects RX3 yX3_pe yX3_pe, Cond.code yX3_pe cX3_pe 3 (some .int)]
def wsX3_comes_r3 : List Cond := [Cond.methodLink RX3 133 yX3_look, Cond.instanceMethod yX3_look, Cond.selects RX3 yX3_look yX3_look, Cond.code yX3_look cX3_look 6 none, Cond.fieldLink RX3 25 "LampHillsModel" "rounds" "[I", Cond.methodLink RX3 89 yX3_la, Cond.instanceMethod yX3_la, Cond.selects RX3 yX3_la yX3_la, Cond.code yX3_la cX3_la 3 (some .int), Cond.methodLink RX3 108 yX3_goer, Cond.instanceMethod yX3_goer, Cond.selects RX3 yX3_goer yX3_goer, Cond.code yX3_goer cX3_goer 3 (some .int), Cond.methodLink RX3 130 yX3_corner_, Cond.instanceMethod yX3_corner_, Cond.selects RX3 yX3_corner_ yX3_corner_, Cond.code yX3_corner_ cX3_corner_ 6 (some .int), Cond.methodLink RX3 54 yX3_ro, Cond.instanceMethod yX3_ro, Cond.selects RX3 yX3_ro yX3_ro, Cond.code yX3_ro cX3_ro 3 (some .int), Cond.fieldLink RX3 13 "LampHillsModel" "roads" "[I", Cond.methodLink RX3 105 yX3_away, Cond.instanceMethod yX3_away]
def wsX3_comes_r4 : List Cond := [Cond.selects RX3 yX3_away yX3_away, Cond.code yX3_away cX3_away 3 (some .int), Cond.fieldLink RX3 16 "LampHillsModel" "ways" "[I", Cond.methodLink RX3 102 yX3_put, Cond.instanceMethod yX3_put, Cond.selects RX3 yX3_put yX3_put, Cond.code yX3_put cX3_put 4 none, Cond.methodLink RX3 92 yX3_setLamp, Cond.instanceMethod yX3_setLamp, Cond.selects RX3 yX3_setLamp yX3_setLamp, Cond.code yX3_setLamp cX3_setLamp 4 none, Cond.methodLink RX3 143 yX3_burn, Cond.instanceMethod yX3_burn, Cond.selects RX3 yX3_burn yX3_burn, Cond.code yX3_burn cX3_burn 3 none, Cond.fieldLink RX3 28 "LampHillsModel" "winds" "[I", Cond.methodLink RX3 137 yX3_gust, Cond.instanceMethod yX3_gust, Cond.selects RX3 yX3_gust yX3_gust, Cond.code yX3_gust cX3_gust 3 (some .int), Cond.fieldLink RX3 9 "LampHillsModel" "heights" "[I", Cond.methodLink RX3 58 Lib.Math.max.name, Cond.static Lib.Math.max.name, Cond.code Lib.Math.max.name Lib.Math.max.code 2 (some .int)]
def wsX3_comes_r5 : List Cond := [Cond.methodLink RX3 165 yX3_bringBack, Cond.instanceMethod yX3_bringBack, Cond.selects RX3 yX3_bringBack yX3_bringBack, Cond.code yX3_bringBack cX3_bringBack 2 none, Cond.methodLink RX3 77 arraycopyName, Cond.native arraycopyName, Cond.static arraycopyName, Cond.initialized "java/lang/System"]
def wsX3_comes : List Cond := .code yX3_comes cX3_comes 5 (some .int) :: ((wsX3_comes_r1 ++ (wsX3_comes_r2 ++ (wsX3_comes_r3 ++ (wsX3_comes_r4 ++ wsX3_comes_r5)))) ++ wsX30)
def wsX3_darkest_r1 : List Cond := [Cond.fieldLink RX3 34 "LampHillsModel" "thrown" "I", Cond.arrayClass .int, Cond.fieldLink RX3 45 "LampHillsModel" "streets" "I", Cond.methodLink RX3 161 yX3_kept, Cond.instanceMethod yX3_kept, Cond.selects RX3 yX3_kept yX3_kept, Cond.initialized RX3, Cond.code yX3_kept cX3_kept 1 (some (.array (.array .int))), Cond.classLink RX3 156 "[I", Cond.fieldLink RX3 19 "LampHillsModel" "lights" "[I", Cond.methodLink RX3 157 ⟨"[I", "clone", "()Ljava/lang/Object;"⟩, Cond.sameMethod "[I" "java/lang/Object" "clone" "()Ljava/lang/Object;", Cond.native ⟨"java/lang/Object", "clone", "()Ljava/lang/Object;"⟩, Cond.instanceMethod ⟨"java/lang/Object", "clone", "()Ljava/lang/Object;"⟩, Cond.selects "[I" ⟨"[I", "clone", "()Ljava/lang/Object;"⟩ ⟨"java/lang/Object", "clone", "()Ljava/lang/Object;"⟩, Cond.fieldLink RX3 22 "LampHillsModel" "people" "[I", Cond.fieldLink RX3 31 "LampHillsModel" "numbers" "[I", Cond.methodLink RX3 146 yX3_isOver, Cond.instanceMethod yX3_isOver, Cond.selects RX3 yX3_isOver yX3_isOver, Cond.code yX3_isOver cX3_isOver 1 (some .boolean), Cond.methodLink RX3 150 yX3_minuteOn, Cond.instanceMethod yX3_minuteOn, Cond.selects RX3 yX3_minuteOn yX3_minuteOn]
def wsX3_darkest_r2 : List Cond := [Cond.code yX3_minuteOn cX3_minuteOn 4 (some .int), Cond.fieldLink RX3 51 "LampHillsModel" "lighters" "I", Cond.fieldLink RX3 48 "LampHillsModel" "lamps" "I", Cond.methodLink RX3 140 yX3_goOn, Cond.instanceMethod yX3_goOn, Cond.selects RX3 yX3_goOn yX3_goOn, Cond.code yX3_goOn cX3_goOn 4 (some .int), Cond.methodLink RX3 63 Lib.Math.min.name, Cond.static Lib.Math.min.name, Cond.initialized "java/lang/Math", Cond.code Lib.Math.min.name Lib.Math.min.code 2 (some .int), Cond.methodLink RX3 99 yX3_pe, Cond.instanceMethod yX3_pe, Cond.selects RX3 yX3_pe yX3_pe, Cond.code yX3_pe cX3_pe 3 (some .int), Cond.methodLink RX3 133 yX3_look, Cond.instanceMethod yX3_look, Cond.selects RX3 yX3_look yX3_look, Cond.code yX3_look cX3_look 6 none, Cond.fieldLink RX3 25 "LampHillsModel" "rounds" "[I", Cond.methodLink RX3 89 yX3_la, Cond.instanceMethod yX3_la, Cond.selects RX3 yX3_la yX3_la, Cond.code yX3_la cX3_la 3 (some .int)]
def wsX3_darkest_r3 : List Cond := [Cond.methodLink RX3 108 yX3_goer, Cond.instanceMethod yX3_goer, Cond.selects RX3 yX3_goer yX3_goer, Cond.code yX3_goer cX3_goer 3 (some .int), Cond.methodLink RX3 130 yX3_corner_, Cond.instanceMethod yX3_corner_, Cond.selects RX3 yX3_corner_ yX3_corner_, Cond.code yX3_corner_ cX3_corner_ 6 (some .int), Cond.methodLink RX3 54 yX3_ro, Cond.instanceMethod yX3_ro, Cond.selects RX3 yX3_ro yX3_ro, Cond.code yX3_ro cX3_ro 3 (some .int), Cond.fieldLink RX3 13 "LampHillsModel" "roads" "[I", Cond.methodLink RX3 105 yX3_away, Cond.instanceMethod yX3_away, Cond.selects RX3 yX3_away yX3_away, Cond.code yX3_away cX3_away 3 (some .int), Cond.fieldLink RX3 16 "LampHillsModel" "ways" "[I", Cond.methodLink RX3 102 yX3_put, Cond.instanceMethod yX3_put, Cond.selects RX3 yX3_put yX3_put, Cond.code yX3_put cX3_put 4 none, Cond.methodLink RX3 92 yX3_setLamp, Cond.instanceMethod yX3_setLamp]
def wsX3_darkest_r4 : List Cond := [Cond.selects RX3 yX3_setLamp yX3_setLamp, Cond.code yX3_setLamp cX3_setLamp 4 none, Cond.methodLink RX3 143 yX3_burn, Cond.instanceMethod yX3_burn, Cond.selects RX3 yX3_burn yX3_burn, Cond.code yX3_burn cX3_burn 3 none, Cond.fieldLink RX3 28 "LampHillsModel" "winds" "[I", Cond.methodLink RX3 137 yX3_gust, Cond.instanceMethod yX3_gust, Cond.selects RX3 yX3_gust yX3_gust, Cond.code yX3_gust cX3_gust 3 (some .int), Cond.fieldLink RX3 9 "LampHillsModel" "heights" "[I", Cond.methodLink RX3 58 Lib.Math.max.name, Cond.static Lib.Math.max.name, Cond.code Lib.Math.max.name Lib.Math.max.code 2 (some .int), Cond.methodLink RX3 117 yX3_burns, Cond.instanceMethod yX3_burns, Cond.selects RX3 yX3_burns yX3_burns, Cond.code yX3_burns cX3_burns 4 (some .int), Cond.methodLink RX3 165 yX3_bringBack, Cond.instanceMethod yX3_bringBack, Cond.selects RX3 yX3_bringBack yX3_bringBack, Cond.code yX3_bringBack cX3_bringBack 2 none, Cond.methodLink RX3 77 arraycopyName]
def wsX3_darkest_r5 : List Cond := [Cond.native arraycopyName, Cond.static arraycopyName, Cond.initialized "java/lang/System"]
def wsX3_darkest : List Cond := .code yX3_darkest cX3_darkest 5 (some .int) :: ((wsX3_darkest_r1 ++ (wsX3_darkest_r2 ++ (wsX3_darkest_r3 ++ (wsX3_darkest_r4 ++ wsX3_darkest_r5)))) ++ wsX30)
def wsX3_needs_r1 : List Cond := [Cond.fieldLink RX3 34 "LampHillsModel" "thrown" "I", Cond.fieldLink RX3 28 "LampHillsModel" "winds" "[I", Cond.methodLink RX3 58 Lib.Math.max.name, Cond.static Lib.Math.max.name, Cond.initialized "java/lang/Math", Cond.code Lib.Math.max.name Lib.Math.max.code 2 (some .int), Cond.methodLink RX3 86 yX3_isLamp, Cond.instanceMethod yX3_isLamp, Cond.selects RX3 yX3_isLamp yX3_isLamp, Cond.initialized RX3, Cond.code yX3_isLamp cX3_isLamp 2 (some .boolean), Cond.fieldLink RX3 48 "LampHillsModel" "lamps" "I", Cond.methodLink RX3 41 yX3_isIn, Cond.static yX3_isIn, Cond.code yX3_isIn cX3_isIn 3 (some .boolean), Cond.methodLink RX3 66 yX3_fail, Cond.instanceMethod yX3_fail, Cond.selects RX3 yX3_fail yX3_fail, Cond.code yX3_fail cX3_fail 2 (some .int), Cond.methodLink RX3 137 yX3_gust, Cond.instanceMethod yX3_gust, Cond.selects RX3 yX3_gust yX3_gust, Cond.code yX3_gust cX3_gust 3 (some .int), Cond.fieldLink RX3 9 "LampHillsModel" "heights" "[I"]
def wsX3_needs_r2 : List Cond := [Cond.methodLink RX3 89 yX3_la, Cond.instanceMethod yX3_la, Cond.selects RX3 yX3_la yX3_la, Cond.code yX3_la cX3_la 3 (some .int), Cond.fieldLink RX3 19 "LampHillsModel" "lights" "[I", Cond.methodLink RX3 54 yX3_ro, Cond.instanceMethod yX3_ro, Cond.selects RX3 yX3_ro yX3_ro, Cond.code yX3_ro cX3_ro 3 (some .int), Cond.fieldLink RX3 13 "LampHillsModel" "roads" "[I"]
def wsX3_needs : List Cond := .code yX3_needs cX3_needs 7 (some .int) :: ((wsX3_needs_r1 ++ wsX3_needs_r2) ++ wsX30)
def wsX3_foresee_r1 : List Cond := [Cond.fieldLink RX3 34 "LampHillsModel" "thrown" "I", Cond.fieldLink RX3 31 "LampHillsModel" "numbers" "[I", Cond.methodLink RX3 41 yX3_isIn, Cond.static yX3_isIn, Cond.initialized RX3, Cond.code yX3_isIn cX3_isIn 3 (some .boolean), Cond.methodLink RX3 66 yX3_fail, Cond.instanceMethod yX3_fail, Cond.selects RX3 yX3_fail yX3_fail, Cond.code yX3_fail cX3_fail 2 (some .int), Cond.methodLink RX3 161 yX3_kept, Cond.instanceMethod yX3_kept, Cond.selects RX3 yX3_kept yX3_kept, Cond.code yX3_kept cX3_kept 1 (some (.array (.array .int))), Cond.classLink RX3 156 "[I", Cond.fieldLink RX3 19 "LampHillsModel" "lights" "[I", Cond.methodLink RX3 157 ⟨"[I", "clone", "()Ljava/lang/Object;"⟩, Cond.sameMethod "[I" "java/lang/Object" "clone" "()Ljava/lang/Object;", Cond.native ⟨"java/lang/Object", "clone", "()Ljava/lang/Object;"⟩, Cond.instanceMethod ⟨"java/lang/Object", "clone", "()Ljava/lang/Object;"⟩, Cond.selects "[I" ⟨"[I", "clone", "()Ljava/lang/Object;"⟩ ⟨"java/lang/Object", "clone", "()Ljava/lang/Object;"⟩, Cond.fieldLink RX3 22 "LampHillsModel" "people" "[I", Cond.methodLink RX3 153 yX3_minutesOn, Cond.instanceMethod yX3_minutesOn]
def wsX3_foresee_r2 : List Cond := [Cond.selects RX3 yX3_minutesOn yX3_minutesOn, Cond.code yX3_minutesOn cX3_minutesOn 3 none, Cond.methodLink RX3 146 yX3_isOver, Cond.instanceMethod yX3_isOver, Cond.selects RX3 yX3_isOver yX3_isOver, Cond.code yX3_isOver cX3_isOver 1 (some .boolean), Cond.methodLink RX3 150 yX3_minuteOn, Cond.instanceMethod yX3_minuteOn, Cond.selects RX3 yX3_minuteOn yX3_minuteOn, Cond.code yX3_minuteOn cX3_minuteOn 4 (some .int), Cond.fieldLink RX3 51 "LampHillsModel" "lighters" "I", Cond.fieldLink RX3 48 "LampHillsModel" "lamps" "I", Cond.methodLink RX3 140 yX3_goOn, Cond.instanceMethod yX3_goOn, Cond.selects RX3 yX3_goOn yX3_goOn, Cond.code yX3_goOn cX3_goOn 4 (some .int), Cond.methodLink RX3 63 Lib.Math.min.name, Cond.static Lib.Math.min.name, Cond.initialized "java/lang/Math", Cond.code Lib.Math.min.name Lib.Math.min.code 2 (some .int), Cond.methodLink RX3 99 yX3_pe, Cond.instanceMethod yX3_pe, Cond.selects RX3 yX3_pe yX3_pe, Cond.code yX3_pe cX3_pe 3 (some .int)]
def wsX3_foresee_r3 : List Cond := [Cond.methodLink RX3 133 yX3_look, Cond.instanceMethod yX3_look, Cond.selects RX3 yX3_look yX3_look, Cond.code yX3_look cX3_look 6 none, Cond.fieldLink RX3 25 "LampHillsModel" "rounds" "[I", Cond.methodLink RX3 89 yX3_la, Cond.instanceMethod yX3_la, Cond.selects RX3 yX3_la yX3_la, Cond.code yX3_la cX3_la 3 (some .int), Cond.methodLink RX3 108 yX3_goer, Cond.instanceMethod yX3_goer, Cond.selects RX3 yX3_goer yX3_goer, Cond.code yX3_goer cX3_goer 3 (some .int), Cond.methodLink RX3 130 yX3_corner_, Cond.instanceMethod yX3_corner_, Cond.selects RX3 yX3_corner_ yX3_corner_, Cond.code yX3_corner_ cX3_corner_ 6 (some .int), Cond.methodLink RX3 54 yX3_ro, Cond.instanceMethod yX3_ro, Cond.selects RX3 yX3_ro yX3_ro, Cond.code yX3_ro cX3_ro 3 (some .int), Cond.fieldLink RX3 13 "LampHillsModel" "roads" "[I", Cond.methodLink RX3 105 yX3_away, Cond.instanceMethod yX3_away]
def wsX3_foresee_r4 : List Cond := [Cond.selects RX3 yX3_away yX3_away, Cond.code yX3_away cX3_away 3 (some .int), Cond.fieldLink RX3 16 "LampHillsModel" "ways" "[I", Cond.methodLink RX3 102 yX3_put, Cond.instanceMethod yX3_put, Cond.selects RX3 yX3_put yX3_put, Cond.code yX3_put cX3_put 4 none, Cond.methodLink RX3 92 yX3_setLamp, Cond.instanceMethod yX3_setLamp, Cond.selects RX3 yX3_setLamp yX3_setLamp, Cond.code yX3_setLamp cX3_setLamp 4 none, Cond.methodLink RX3 143 yX3_burn, Cond.instanceMethod yX3_burn, Cond.selects RX3 yX3_burn yX3_burn, Cond.code yX3_burn cX3_burn 3 none, Cond.fieldLink RX3 28 "LampHillsModel" "winds" "[I", Cond.methodLink RX3 137 yX3_gust, Cond.instanceMethod yX3_gust, Cond.selects RX3 yX3_gust yX3_gust, Cond.code yX3_gust cX3_gust 3 (some .int), Cond.fieldLink RX3 9 "LampHillsModel" "heights" "[I", Cond.methodLink RX3 58 Lib.Math.max.name, Cond.static Lib.Math.max.name, Cond.code Lib.Math.max.name Lib.Math.max.code 2 (some .int)]
def wsX3_foresee_r5 : List Cond := [Cond.methodLink RX3 120 yX3_all, Cond.instanceMethod yX3_all, Cond.selects RX3 yX3_all yX3_all, Cond.code yX3_all cX3_all 4 (some .int), Cond.methodLink RX3 123 yX3_dark, Cond.instanceMethod yX3_dark, Cond.selects RX3 yX3_dark yX3_dark, Cond.code yX3_dark cX3_dark 3 (some .int), Cond.fieldLink RX3 45 "LampHillsModel" "streets" "I", Cond.methodLink RX3 117 yX3_burns, Cond.instanceMethod yX3_burns, Cond.selects RX3 yX3_burns yX3_burns, Cond.code yX3_burns cX3_burns 4 (some .int), Cond.methodLink RX3 165 yX3_bringBack, Cond.instanceMethod yX3_bringBack, Cond.selects RX3 yX3_bringBack yX3_bringBack, Cond.code yX3_bringBack cX3_bringBack 2 none, Cond.methodLink RX3 77 arraycopyName, Cond.native arraycopyName, Cond.static arraycopyName, Cond.initialized "java/lang/System"]
def wsX3_foresee : List Cond := .code yX3_foresee cX3_foresee 6 (some .int) :: ((wsX3_foresee_r1 ++ (wsX3_foresee_r2 ++ (wsX3_foresee_r3 ++ (wsX3_foresee_r4 ++ wsX3_foresee_r5)))) ++ wsX30)
def wsX3_mean : List Cond := .code yX3_mean cX3_mean 1 (some .double) :: ([.fieldLink RX3 34 "LampHillsModel" "thrown" "I", .fieldLink RX3 48 "LampHillsModel" "lamps" "I", .methodLink RX3 120 yX3_all, .instanceMethod yX3_all, .selects RX3 yX3_all yX3_all, .initialized RX3, .code yX3_all cX3_all 4 (some .int), .methodLink RX3 89 yX3_la, .instanceMethod yX3_la, .selects RX3 yX3_la yX3_la, .code yX3_la cX3_la 3 (some .int), .fieldLink RX3 19 "LampHillsModel" "lights" "[I"] ++ wsX30)
def wsX3_digest_r1 : List Cond := [Cond.fieldLink RX3 34 "LampHillsModel" "thrown" "I", Cond.constantLong RX3 169 (941), Cond.constantLong RX3 171 (31), Cond.fieldLink RX3 38 "LampHillsModel" "corners" "I", Cond.fieldLink RX3 9 "LampHillsModel" "heights" "[I", Cond.fieldLink RX3 45 "LampHillsModel" "streets" "I", Cond.fieldLink RX3 48 "LampHillsModel" "lamps" "I", Cond.fieldLink RX3 51 "LampHillsModel" "lighters" "I", Cond.fieldLink RX3 25 "LampHillsModel" "rounds" "[I", Cond.fieldLink RX3 28 "LampHillsModel" "winds" "[I", Cond.methodLink RX3 127 yX3_counted, Cond.instanceMethod yX3_counted, Cond.selects RX3 yX3_counted yX3_counted, Cond.initialized RX3, Cond.code yX3_counted cX3_counted 3 (some .int), Cond.arrayClass .int, Cond.fieldLink RX3 31 "LampHillsModel" "numbers" "[I", Cond.methodLink RX3 120 yX3_all, Cond.instanceMethod yX3_all, Cond.selects RX3 yX3_all yX3_all, Cond.code yX3_all cX3_all 4 (some .int), Cond.methodLink RX3 89 yX3_la, Cond.instanceMethod yX3_la, Cond.selects RX3 yX3_la yX3_la]
def wsX3_digest_r2 : List Cond := [Cond.code yX3_la cX3_la 3 (some .int), Cond.fieldLink RX3 19 "LampHillsModel" "lights" "[I", Cond.methodLink RX3 123 yX3_dark, Cond.instanceMethod yX3_dark, Cond.selects RX3 yX3_dark yX3_dark, Cond.code yX3_dark cX3_dark 3 (some .int), Cond.methodLink RX3 117 yX3_burns, Cond.instanceMethod yX3_burns, Cond.selects RX3 yX3_burns yX3_burns, Cond.code yX3_burns cX3_burns 4 (some .int), Cond.methodLink RX3 54 yX3_ro, Cond.instanceMethod yX3_ro, Cond.selects RX3 yX3_ro yX3_ro, Cond.code yX3_ro cX3_ro 3 (some .int), Cond.fieldLink RX3 13 "LampHillsModel" "roads" "[I", Cond.methodLink RX3 111 yX3_lampTold, Cond.instanceMethod yX3_lampTold, Cond.selects RX3 yX3_lampTold yX3_lampTold, Cond.code yX3_lampTold cX3_lampTold 3 (some .int), Cond.methodLink RX3 108 yX3_goer, Cond.instanceMethod yX3_goer, Cond.selects RX3 yX3_goer yX3_goer, Cond.code yX3_goer cX3_goer 3 (some .int), Cond.methodLink RX3 99 yX3_pe]
def wsX3_digest_r3 : List Cond := [Cond.instanceMethod yX3_pe, Cond.selects RX3 yX3_pe yX3_pe, Cond.code yX3_pe cX3_pe 3 (some .int), Cond.fieldLink RX3 22 "LampHillsModel" "people" "[I", Cond.methodLink RX3 114 yX3_lighterTold, Cond.instanceMethod yX3_lighterTold, Cond.selects RX3 yX3_lighterTold yX3_lighterTold, Cond.code yX3_lighterTold cX3_lighterTold 4 (some .int)]
def wsX3_digest : List Cond := .code yX3_digest cX3_digest 7 (some .long) :: ((wsX3_digest_r1 ++ (wsX3_digest_r2 ++ wsX3_digest_r3)) ++ wsX30)
def wsJ9_max_7cf53 : List Cond := .code yJ9_max_7cf53 cJ9_max_7cf53 2 (some .int) :: ([])
def wsJ9_min_7cf53 : List Cond := .code yJ9_min_7cf53 cJ9_min_7cf53 2 (some .int) :: ([])
def wsL_corner_r1 : List Cond := [Cond.classLink RL 13 "java/lang/IllegalArgumentException", Cond.classLink RL 15 "java/lang/IllegalStateException", Cond.methodLink RL 7 yX2_corner, Cond.instanceMethod yX2_corner, Cond.selects RX2 yX2_corner yX2_corner, Cond.initialized RX2, Cond.code yX2_corner cX2_corner 2 (some .int), Cond.fieldLink RX2 12 "LampHills" "town" "LLampHills$Town;", Cond.fieldLink RX2 34 "LampHills$Town" "corners" "I", Cond.methodLink RX2 30 yX2_requireRange, Cond.static yX2_requireRange, Cond.code yX2_requireRange cX2_requireRange 3 none, Cond.classLink RX2 49 "java/lang/IllegalArgumentException", Cond.initialized "java/lang/IllegalArgumentException", Cond.methodLink RX2 38 yX2_requireRoom, Cond.static yX2_requireRoom, Cond.code yX2_requireRoom cX2_requireRoom 2 none, Cond.classLink RX2 93 "java/lang/IllegalStateException", Cond.initialized "java/lang/IllegalStateException", Cond.methodLink RX2 42 yX1_addCorner, Cond.instanceMethod yX1_addCorner, Cond.selects RX1 yX1_addCorner yX1_addCorner, Cond.initialized RX1, Cond.code yX1_addCorner cX1_addCorner 4 (some .int)]
def wsL_corner_r2 : List Cond := [Cond.fieldLink RX1 53 "LampHills$Town" "corners" "I", Cond.fieldLink RX1 9 "LampHills$Town" "height" "[I", Cond.fieldLink RX1 17 "LampHills$Town" "ways" "[[I", Cond.constant RX1 57 (1000000)]
def wsL_corner : List Cond := .codeWith yL_corner cL_corner 4 (some .int) [(0, 9, 12, 13), (0, 9, 15, 15)] :: ((wsL_corner_r1 ++ wsL_corner_r2) ++ wsX20 ++ wsX10 ++ (vx_atS RX2 53 "java/lang/IllegalArgumentException" ["java/lang/RuntimeException", "java/lang/Exception"]).filter goodWord ++ (vx_atS RX2 97 "java/lang/IllegalStateException" ["java/lang/RuntimeException", "java/lang/Exception"]).filter goodWord)
def wsL_street_r1 : List Cond := [Cond.classLink RL 21 "java/lang/IndexOutOfBoundsException", Cond.classLink RL 13 "java/lang/IllegalArgumentException", Cond.classLink RL 15 "java/lang/IllegalStateException", Cond.methodLink RL 17 yX2_street, Cond.instanceMethod yX2_street, Cond.selects RX2 yX2_street yX2_street, Cond.initialized RX2, Cond.code yX2_street cX2_street 4 (some .int), Cond.classLink RX2 49 "java/lang/IllegalArgumentException", Cond.initialized "java/lang/IllegalArgumentException", Cond.fieldLink RX2 12 "LampHills" "town" "LLampHills$Town;", Cond.fieldLink RX2 34 "LampHills$Town" "corners" "I", Cond.fieldLink RX2 56 "LampHills$Town" "streets" "I", Cond.methodLink RX2 46 yX2_requireIndex, Cond.static yX2_requireIndex, Cond.code yX2_requireIndex cX2_requireIndex 2 none, Cond.classLink RX2 223 "java/lang/IndexOutOfBoundsException", Cond.initialized "java/lang/IndexOutOfBoundsException", Cond.methodLink RX2 30 yX2_requireRange, Cond.static yX2_requireRange, Cond.code yX2_requireRange cX2_requireRange 3 none, Cond.methodLink RX2 38 yX2_requireRoom, Cond.static yX2_requireRoom, Cond.code yX2_requireRoom cX2_requireRoom 2 none]
def wsL_street_r2 : List Cond := [Cond.classLink RX2 93 "java/lang/IllegalStateException", Cond.initialized "java/lang/IllegalStateException", Cond.methodLink RX2 59 yX1_addStreet, Cond.instanceMethod yX1_addStreet, Cond.selects RX1 yX1_addStreet yX1_addStreet, Cond.initialized RX1, Cond.code yX1_addStreet cX1_addStreet 5 (some .int), Cond.fieldLink RX1 58 "LampHills$Town" "streets" "I", Cond.fieldLink RX1 20 "LampHills$Town" "firstEnd" "[I", Cond.fieldLink RX1 23 "LampHills$Town" "secondEnd" "[I", Cond.fieldLink RX1 26 "LampHills$Town" "length" "[I", Cond.methodLink RX1 61 yX1_minutesAlong, Cond.instanceMethod yX1_minutesAlong, Cond.selects RX1 yX1_minutesAlong yX1_minutesAlong, Cond.code yX1_minutesAlong cX1_minutesAlong 4 (some .int), Cond.fieldLink RX1 9 "LampHills$Town" "height" "[I", Cond.methodLink RX1 75 Lib.Math.max.name, Cond.static Lib.Math.max.name, Cond.initialized "java/lang/Math", Cond.code Lib.Math.max.name Lib.Math.max.code 2 (some .int), Cond.methodLink RX1 65 yX1_shortenWays, Cond.instanceMethod yX1_shortenWays, Cond.selects RX1 yX1_shortenWays yX1_shortenWays, Cond.code yX1_shortenWays cX1_shortenWays 7 none]
def wsL_street_r3 : List Cond := [Cond.fieldLink RX1 53 "LampHills$Town" "corners" "I", Cond.fieldLink RX1 17 "LampHills$Town" "ways" "[[I", Cond.methodLink RX1 81 Lib.Math.min.name, Cond.static Lib.Math.min.name, Cond.code Lib.Math.min.name Lib.Math.min.code 2 (some .int)]
def wsL_street : List Cond := .codeWith yL_street cL_street 6 (some .int) [(0, 12, 15, 21), (0, 12, 19, 13), (0, 12, 23, 15)] :: ((wsL_street_r1 ++ (wsL_street_r2 ++ wsL_street_r3)) ++ wsX20 ++ wsX10 ++ (vx_atS RX2 53 "java/lang/IllegalArgumentException" ["java/lang/RuntimeException", "java/lang/Exception"]).filter goodWord ++ (vx_atS RX2 227 "java/lang/IndexOutOfBoundsException" ["java/lang/RuntimeException", "java/lang/Exception"]).filter goodWord ++ (vx_atS RX2 97 "java/lang/IllegalStateException" ["java/lang/RuntimeException", "java/lang/Exception"]).filter goodWord)
def wsL_lamp_r1 : List Cond := [Cond.classLink RL 21 "java/lang/IndexOutOfBoundsException", Cond.classLink RL 13 "java/lang/IllegalArgumentException", Cond.classLink RL 15 "java/lang/IllegalStateException", Cond.methodLink RL 23 yX2_lamp, Cond.instanceMethod yX2_lamp, Cond.selects RX2 yX2_lamp yX2_lamp, Cond.initialized RX2, Cond.code yX2_lamp cX2_lamp 3 (some .int), Cond.fieldLink RX2 12 "LampHills" "town" "LLampHills$Town;", Cond.fieldLink RX2 56 "LampHills$Town" "streets" "I", Cond.fieldLink RX2 63 "LampHills$Town" "lamps" "I", Cond.methodLink RX2 46 yX2_requireIndex, Cond.static yX2_requireIndex, Cond.code yX2_requireIndex cX2_requireIndex 2 none, Cond.classLink RX2 223 "java/lang/IndexOutOfBoundsException", Cond.initialized "java/lang/IndexOutOfBoundsException", Cond.methodLink RX2 30 yX2_requireRange, Cond.static yX2_requireRange, Cond.code yX2_requireRange cX2_requireRange 3 none, Cond.classLink RX2 49 "java/lang/IllegalArgumentException", Cond.initialized "java/lang/IllegalArgumentException", Cond.methodLink RX2 38 yX2_requireRoom, Cond.static yX2_requireRoom, Cond.code yX2_requireRoom cX2_requireRoom 2 none]
def wsL_lamp_r2 : List Cond := [Cond.classLink RX2 93 "java/lang/IllegalStateException", Cond.initialized "java/lang/IllegalStateException", Cond.methodLink RX2 66 yX1_addLamp, Cond.instanceMethod yX1_addLamp, Cond.selects RX1 yX1_addLamp yX1_addLamp, Cond.initialized RX1, Cond.code yX1_addLamp cX1_addLamp 4 (some .int), Cond.fieldLink RX1 69 "LampHills$Town" "lamps" "I", Cond.fieldLink RX1 29 "LampHills$Town" "lampStreet" "[I", Cond.fieldLink RX1 32 "LampHills$Town" "lampHeight" "[I"]
def wsL_lamp : List Cond := .codeWith yL_lamp cL_lamp 5 (some .int) [(0, 10, 13, 21), (0, 10, 17, 13), (0, 10, 21, 15)] :: ((wsL_lamp_r1 ++ wsL_lamp_r2) ++ wsX20 ++ wsX10 ++ (vx_atS RX2 227 "java/lang/IndexOutOfBoundsException" ["java/lang/RuntimeException", "java/lang/Exception"]).filter goodWord ++ (vx_atS RX2 53 "java/lang/IllegalArgumentException" ["java/lang/RuntimeException", "java/lang/Exception"]).filter goodWord ++ (vx_atS RX2 97 "java/lang/IllegalStateException" ["java/lang/RuntimeException", "java/lang/Exception"]).filter goodWord)
def wsL_lid : List Cond := .codeWith yL_lid cL_lid 5 (some .int) [(0, 10, 13, 21), (0, 10, 17, 13)] :: ([.classLink RL 21 "java/lang/IndexOutOfBoundsException", .classLink RL 13 "java/lang/IllegalArgumentException", .methodLink RL 27 yX2_lid, .instanceMethod yX2_lid, .selects RX2 yX2_lid yX2_lid, .initialized RX2, .code yX2_lid cX2_lid 4 (some .int), .fieldLink RX2 12 "LampHills" "town" "LLampHills$Town;", .fieldLink RX2 63 "LampHills$Town" "lamps" "I", .fieldLink RX2 70 "LampHills$Town" "lid" "[I", .methodLink RX2 46 yX2_requireIndex, .static yX2_requireIndex, .code yX2_requireIndex cX2_requireIndex 2 none, .classLink RX2 223 "java/lang/IndexOutOfBoundsException", .initialized "java/lang/IndexOutOfBoundsException", .methodLink RX2 30 yX2_requireRange, .static yX2_requireRange, .code yX2_requireRange cX2_requireRange 3 none, .classLink RX2 49 "java/lang/IllegalArgumentException", .initialized "java/lang/IllegalArgumentException"] ++ wsX20 ++ wsX10 ++ (vx_atS RX2 227 "java/lang/IndexOutOfBoundsException" ["java/lang/RuntimeException", "java/lang/Exception"]).filter goodWord ++ (vx_atS RX2 53 "java/lang/IllegalArgumentException" ["java/lang/RuntimeException", "java/lang/Exception"]).filter goodWord)
def wsL_setWind : List Cond := .codeWith yL_setWind cL_setWind 5 (some .int) [(0, 10, 13, 21), (0, 10, 17, 13)] :: ([.classLink RL 21 "java/lang/IndexOutOfBoundsException", .classLink RL 13 "java/lang/IllegalArgumentException", .methodLink RL 30 yX2_setWind, .instanceMethod yX2_setWind, .selects RX2 yX2_setWind yX2_setWind, .initialized RX2, .code yX2_setWind cX2_setWind 4 (some .int), .fieldLink RX2 12 "LampHills" "town" "LLampHills$Town;", .fieldLink RX2 73 "LampHills$Town" "wind" "[I", .methodLink RX2 46 yX2_requireIndex, .static yX2_requireIndex, .code yX2_requireIndex cX2_requireIndex 2 none, .classLink RX2 223 "java/lang/IndexOutOfBoundsException", .initialized "java/lang/IndexOutOfBoundsException", .methodLink RX2 30 yX2_requireRange, .static yX2_requireRange, .code yX2_requireRange cX2_requireRange 3 none, .classLink RX2 49 "java/lang/IllegalArgumentException", .initialized "java/lang/IllegalArgumentException"] ++ wsX20 ++ wsX10 ++ (vx_atS RX2 227 "java/lang/IndexOutOfBoundsException" ["java/lang/RuntimeException", "java/lang/Exception"]).filter goodWord ++ (vx_atS RX2 53 "java/lang/IllegalArgumentException" ["java/lang/RuntimeException", "java/lang/Exception"]).filter goodWord)
def wsL_hire_r1 : List Cond := [Cond.classLink RL 21 "java/lang/IndexOutOfBoundsException", Cond.classLink RL 13 "java/lang/IllegalArgumentException", Cond.classLink RL 15 "java/lang/IllegalStateException", Cond.methodLink RL 33 yX2_hire, Cond.instanceMethod yX2_hire, Cond.selects RX2 yX2_hire yX2_hire, Cond.initialized RX2, Cond.code yX2_hire cX2_hire 5 (some .int), Cond.fieldLink RX2 12 "LampHills" "town" "LLampHills$Town;", Cond.fieldLink RX2 34 "LampHills$Town" "corners" "I", Cond.fieldLink RX2 76 "LampHills$Town" "lighters" "I", Cond.fieldLink RX2 19 "LampHills" "night" "LLampHills$Night;", Cond.fieldLink RX2 82 "LampHills$Night" "can" "[I", Cond.methodLink RX2 46 yX2_requireIndex, Cond.static yX2_requireIndex, Cond.code yX2_requireIndex cX2_requireIndex 2 none, Cond.classLink RX2 223 "java/lang/IndexOutOfBoundsException", Cond.initialized "java/lang/IndexOutOfBoundsException", Cond.methodLink RX2 30 yX2_requireRange, Cond.static yX2_requireRange, Cond.code yX2_requireRange cX2_requireRange 3 none, Cond.classLink RX2 49 "java/lang/IllegalArgumentException", Cond.initialized "java/lang/IllegalArgumentException", Cond.methodLink RX2 38 yX2_requireRoom]
def wsL_hire_r2 : List Cond := [Cond.static yX2_requireRoom, Cond.code yX2_requireRoom cX2_requireRoom 2 none, Cond.classLink RX2 93 "java/lang/IllegalStateException", Cond.initialized "java/lang/IllegalStateException", Cond.methodLink RX2 79 yX1_addLighter, Cond.instanceMethod yX1_addLighter, Cond.selects RX1 yX1_addLighter yX1_addLighter, Cond.initialized RX1, Cond.code yX1_addLighter cX1_addLighter 4 (some .int), Cond.fieldLink RX1 72 "LampHills$Town" "lighters" "I", Cond.fieldLink RX1 41 "LampHills$Town" "home" "[I", Cond.fieldLink RX1 44 "LampHills$Town" "ladder" "[I", Cond.methodLink RX2 85 yX0_sendHome, Cond.instanceMethod yX0_sendHome, Cond.selects RX0 yX0_sendHome yX0_sendHome, Cond.initialized RX0, Cond.code yX0_sendHome cX0_sendHome 3 none, Cond.fieldLink RX0 31 "LampHills$Night" "at" "[I", Cond.fieldLink RX0 97 "LampHills$Town" "home" "[I", Cond.fieldLink RX0 46 "LampHills$Night" "latestPlace" "[I", Cond.methodLink RX0 100 yX0_waitFromNow, Cond.instanceMethod yX0_waitFromNow, Cond.selects RX0 yX0_waitFromNow yX0_waitFromNow, Cond.code yX0_waitFromNow cX0_waitFromNow 2 none]
def wsL_hire_r3 : List Cond := [Cond.fieldLink RX0 37 "LampHills$Night" "goesTo" "[I", Cond.fieldLink RX0 43 "LampHills$Night" "minutesLeft" "[I"]
def wsL_hire : List Cond := .codeWith yL_hire cL_hire 6 (some .int) [(0, 12, 15, 21), (0, 12, 19, 13), (0, 12, 23, 15)] :: ((wsL_hire_r1 ++ (wsL_hire_r2 ++ wsL_hire_r3)) ++ wsX20 ++ wsX10 ++ wsX00 ++ (vx_atS RX2 227 "java/lang/IndexOutOfBoundsException" ["java/lang/RuntimeException", "java/lang/Exception"]).filter goodWord ++ (vx_atS RX2 53 "java/lang/IllegalArgumentException" ["java/lang/RuntimeException", "java/lang/Exception"]).filter goodWord ++ (vx_atS RX2 97 "java/lang/IllegalStateException" ["java/lang/RuntimeException", "java/lang/Exception"]).filter goodWord)
def wsL_round_r1 : List Cond := [Cond.classLink RL 21 "java/lang/IndexOutOfBoundsException", Cond.classLink RL 15 "java/lang/IllegalStateException", Cond.methodLink RL 36 yX2_round, Cond.instanceMethod yX2_round, Cond.selects RX2 yX2_round yX2_round, Cond.initialized RX2, Cond.code yX2_round cX2_round 3 (some .int), Cond.classLink RX2 93 "java/lang/IllegalStateException", Cond.initialized "java/lang/IllegalStateException", Cond.fieldLink RX2 12 "LampHills" "town" "LLampHills$Town;", Cond.fieldLink RX2 76 "LampHills$Town" "lighters" "I", Cond.fieldLink RX2 63 "LampHills$Town" "lamps" "I", Cond.fieldLink RX2 98 "LampHills$Town" "roundSize" "[I", Cond.methodLink RX2 46 yX2_requireIndex, Cond.static yX2_requireIndex, Cond.code yX2_requireIndex cX2_requireIndex 2 none, Cond.classLink RX2 223 "java/lang/IndexOutOfBoundsException", Cond.initialized "java/lang/IndexOutOfBoundsException", Cond.methodLink RX2 89 yX1_isInRound, Cond.instanceMethod yX1_isInRound, Cond.selects RX1 yX1_isInRound yX1_isInRound, Cond.initialized RX1, Cond.code yX1_isInRound cX1_isInRound 4 (some .boolean), Cond.fieldLink RX1 47 "LampHills$Town" "roundSize" "[I"]
def wsL_round_r2 : List Cond := [Cond.fieldLink RX1 50 "LampHills$Town" "rounds" "[[I", Cond.methodLink RX2 38 yX2_requireRoom, Cond.static yX2_requireRoom, Cond.code yX2_requireRoom cX2_requireRoom 2 none, Cond.methodLink RX2 101 yX1_addToRound, Cond.instanceMethod yX1_addToRound, Cond.selects RX1 yX1_addToRound yX1_addToRound, Cond.code yX1_addToRound cX1_addToRound 3 (some .int)]
def wsL_round : List Cond := .codeWith yL_round cL_round 5 (some .int) [(0, 10, 13, 21), (0, 10, 17, 15)] :: ((wsL_round_r1 ++ wsL_round_r2) ++ wsX20 ++ wsX10 ++ (vx_atS RX2 97 "java/lang/IllegalStateException" ["java/lang/RuntimeException", "java/lang/Exception"]).filter goodWord ++ (vx_atS RX2 227 "java/lang/IndexOutOfBoundsException" ["java/lang/RuntimeException", "java/lang/Exception"]).filter goodWord)
def wsL_fill_r1 : List Cond := [Cond.classLink RL 21 "java/lang/IndexOutOfBoundsException", Cond.classLink RL 13 "java/lang/IllegalArgumentException", Cond.methodLink RL 39 yX2_fill, Cond.instanceMethod yX2_fill, Cond.selects RX2 yX2_fill yX2_fill, Cond.initialized RX2, Cond.code yX2_fill cX2_fill 3 (some .int), Cond.fieldLink RX2 12 "LampHills" "town" "LLampHills$Town;", Cond.fieldLink RX2 76 "LampHills$Town" "lighters" "I", Cond.fieldLink RX2 19 "LampHills" "night" "LLampHills$Night;", Cond.fieldLink RX2 82 "LampHills$Night" "can" "[I", Cond.methodLink RX2 104 Lib.Math.min.name, Cond.static Lib.Math.min.name, Cond.initialized "java/lang/Math", Cond.code Lib.Math.min.name Lib.Math.min.code 2 (some .int), Cond.methodLink RX2 46 yX2_requireIndex, Cond.static yX2_requireIndex, Cond.code yX2_requireIndex cX2_requireIndex 2 none, Cond.classLink RX2 223 "java/lang/IndexOutOfBoundsException", Cond.initialized "java/lang/IndexOutOfBoundsException", Cond.methodLink RX2 30 yX2_requireRange, Cond.static yX2_requireRange, Cond.code yX2_requireRange cX2_requireRange 3 none, Cond.classLink RX2 49 "java/lang/IllegalArgumentException"]
def wsL_fill_r2 : List Cond := [Cond.initialized "java/lang/IllegalArgumentException"]
def wsL_fill : List Cond := .codeWith yL_fill cL_fill 5 (some .int) [(0, 10, 13, 21), (0, 10, 17, 13)] :: ((wsL_fill_r1 ++ wsL_fill_r2) ++ wsX20 ++ wsX10 ++ wsX00 ++ (vx_atS RX2 227 "java/lang/IndexOutOfBoundsException" ["java/lang/RuntimeException", "java/lang/Exception"]).filter goodWord ++ (vx_atS RX2 53 "java/lang/IllegalArgumentException" ["java/lang/RuntimeException", "java/lang/Exception"]).filter goodWord)
def wsL_way : List Cond := .codeWith yL_way cL_way 5 (some .int) [(0, 10, 13, 21)] :: ([.classLink RL 21 "java/lang/IndexOutOfBoundsException", .methodLink RL 42 yX2_way, .instanceMethod yX2_way, .selects RX2 yX2_way yX2_way, .initialized RX2, .code yX2_way cX2_way 4 (some .int), .fieldLink RX2 12 "LampHills" "town" "LLampHills$Town;", .fieldLink RX2 34 "LampHills$Town" "corners" "I", .fieldLink RX2 109 "LampHills$Town" "ways" "[[I", .constant RX2 113 (1000000), .methodLink RX2 46 yX2_requireIndex, .static yX2_requireIndex, .code yX2_requireIndex cX2_requireIndex 2 none, .classLink RX2 223 "java/lang/IndexOutOfBoundsException", .initialized "java/lang/IndexOutOfBoundsException"] ++ wsX20 ++ wsX10 ++ (vx_atS RX2 227 "java/lang/IndexOutOfBoundsException" ["java/lang/RuntimeException", "java/lang/Exception"]).filter goodWord)
def wsL_told_r1 : List Cond := [Cond.classLink RL 21 "java/lang/IndexOutOfBoundsException", Cond.methodLink RL 45 yX2_told, Cond.instanceMethod yX2_told, Cond.selects RX2 yX2_told yX2_told, Cond.initialized RX2, Cond.code yX2_told cX2_told 3 (some .int), Cond.fieldLink RX2 12 "LampHills" "town" "LLampHills$Town;", Cond.fieldLink RX2 63 "LampHills$Town" "lamps" "I", Cond.fieldLink RX2 114 "LampHills$Town" "lampStreet" "[I", Cond.fieldLink RX2 117 "LampHills$Town" "lampHeight" "[I", Cond.fieldLink RX2 70 "LampHills$Town" "lid" "[I", Cond.fieldLink RX2 19 "LampHills" "night" "LLampHills$Night;", Cond.fieldLink RX2 120 "LampHills$Night" "oil" "[I", Cond.fieldLink RX2 123 "LampHills$Night" "soot" "[I", Cond.fieldLink RX2 126 "LampHills$Night" "burns" "[Z", Cond.fieldLink RX2 134 "LampHills$Night" "timesLit" "[I", Cond.fieldLink RX2 137 "LampHills$Night" "timesBlownOut" "[I", Cond.methodLink RX2 46 yX2_requireIndex, Cond.static yX2_requireIndex, Cond.code yX2_requireIndex cX2_requireIndex 2 none, Cond.classLink RX2 223 "java/lang/IndexOutOfBoundsException", Cond.initialized "java/lang/IndexOutOfBoundsException", Cond.methodLink RX2 130 yX0_whoGoesTo, Cond.instanceMethod yX0_whoGoesTo]
def wsL_told_r2 : List Cond := [Cond.selects RX0 yX0_whoGoesTo yX0_whoGoesTo, Cond.initialized RX0, Cond.code yX0_whoGoesTo cX0_whoGoesTo 4 (some .int), Cond.fieldLink RX0 91 "LampHills$Town" "lighters" "I", Cond.fieldLink RX0 37 "LampHills$Night" "goesTo" "[I"]
def wsL_told : List Cond := .codeWith yL_told cL_told 5 (some .int) [(0, 10, 13, 21)] :: ((wsL_told_r1 ++ wsL_told_r2) ++ wsX20 ++ wsX10 ++ wsX00 ++ (vx_atS RX2 227 "java/lang/IndexOutOfBoundsException" ["java/lang/RuntimeException", "java/lang/Exception"]).filter goodWord)
def wsL_lighter : List Cond := .codeWith yL_lighter cL_lighter 5 (some .int) [(0, 10, 13, 21)] :: ([.classLink RL 21 "java/lang/IndexOutOfBoundsException", .methodLink RL 48 yX2_lighter, .instanceMethod yX2_lighter, .selects RX2 yX2_lighter yX2_lighter, .initialized RX2, .code yX2_lighter cX2_lighter 3 (some .int), .fieldLink RX2 12 "LampHills" "town" "LLampHills$Town;", .fieldLink RX2 76 "LampHills$Town" "lighters" "I", .fieldLink RX2 19 "LampHills" "night" "LLampHills$Night;", .fieldLink RX2 140 "LampHills$Night" "at" "[I", .fieldLink RX2 143 "LampHills$Town" "ladder" "[I", .fieldLink RX2 82 "LampHills$Night" "can" "[I", .fieldLink RX2 98 "LampHills$Town" "roundSize" "[I", .fieldLink RX2 146 "LampHills$Night" "goesTo" "[I", .fieldLink RX2 149 "LampHills$Night" "minutesLeft" "[I", .fieldLink RX2 152 "LampHills$Night" "litBy" "[I", .methodLink RX2 46 yX2_requireIndex, .static yX2_requireIndex, .code yX2_requireIndex cX2_requireIndex 2 none, .classLink RX2 223 "java/lang/IndexOutOfBoundsException", .initialized "java/lang/IndexOutOfBoundsException"] ++ wsX20 ++ wsX10 ++ wsX00 ++ (vx_atS RX2 227 "java/lang/IndexOutOfBoundsException" ["java/lang/RuntimeException", "java/lang/Exception"]).filter goodWord)
def wsL_burning : List Cond := .codeWith yL_burning cL_burning 4 (some .int) [(0, 9, 12, 21)] :: ([.classLink RL 21 "java/lang/IndexOutOfBoundsException", .methodLink RL 51 yX2_burning, .instanceMethod yX2_burning, .selects RX2 yX2_burning yX2_burning, .initialized RX2, .code yX2_burning cX2_burning 2 (some .int), .fieldLink RX2 12 "LampHills" "town" "LLampHills$Town;", .fieldLink RX2 56 "LampHills$Town" "streets" "I", .fieldLink RX2 19 "LampHills" "night" "LLampHills$Night;", .fieldLink RX2 155 "LampHills$Night" "burningIn" "[I", .methodLink RX2 46 yX2_requireIndex, .static yX2_requireIndex, .code yX2_requireIndex cX2_requireIndex 2 none, .classLink RX2 223 "java/lang/IndexOutOfBoundsException", .initialized "java/lang/IndexOutOfBoundsException"] ++ wsX20 ++ wsX10 ++ wsX00 ++ (vx_atS RX2 227 "java/lang/IndexOutOfBoundsException" ["java/lang/RuntimeException", "java/lang/Exception"]).filter goodWord)
def wsL_count_r1 : List Cond := [Cond.classLink RL 21 "java/lang/IndexOutOfBoundsException", Cond.methodLink RL 54 yX2_count, Cond.instanceMethod yX2_count, Cond.selects RX2 yX2_count yX2_count, Cond.initialized RX2, Cond.code yX2_count cX2_count 2 (some .int), Cond.fieldLink RX2 19 "LampHills" "night" "LLampHills$Night;", Cond.fieldLink RX2 158 "LampHills$Night" "minute" "I", Cond.fieldLink RX2 161 "LampHills$Night" "number" "I", Cond.fieldLink RX2 12 "LampHills" "town" "LLampHills$Town;", Cond.fieldLink RX2 34 "LampHills$Town" "corners" "I", Cond.fieldLink RX2 56 "LampHills$Town" "streets" "I", Cond.fieldLink RX2 63 "LampHills$Town" "lamps" "I", Cond.fieldLink RX2 76 "LampHills$Town" "lighters" "I", Cond.fieldLink RX2 174 "LampHills$Night" "oilUsed" "I", Cond.methodLink RX2 46 yX2_requireIndex, Cond.static yX2_requireIndex, Cond.code yX2_requireIndex cX2_requireIndex 2 none, Cond.classLink RX2 223 "java/lang/IndexOutOfBoundsException", Cond.initialized "java/lang/IndexOutOfBoundsException", Cond.methodLink RX2 164 yX0_burningLamps, Cond.instanceMethod yX0_burningLamps, Cond.selects RX0 yX0_burningLamps yX0_burningLamps, Cond.initialized RX0]
def wsL_count_r2 : List Cond := [Cond.code yX0_burningLamps cX0_burningLamps 4 (some .int), Cond.fieldLink RX0 104 "LampHills$Town" "streets" "I", Cond.fieldLink RX0 9 "LampHills$Night" "burningIn" "[I", Cond.methodLink RX2 168 yX0_darkStreets, Cond.instanceMethod yX0_darkStreets, Cond.selects RX0 yX0_darkStreets yX0_darkStreets, Cond.code yX0_darkStreets cX0_darkStreets 4 (some .int), Cond.methodLink RX0 107 yX0_isDark, Cond.instanceMethod yX0_isDark, Cond.selects RX0 yX0_isDark yX0_isDark, Cond.code yX0_isDark cX0_isDark 2 (some .boolean), Cond.methodLink RX2 171 yX0_oilOfLamps, Cond.instanceMethod yX0_oilOfLamps, Cond.selects RX0 yX0_oilOfLamps yX0_oilOfLamps, Cond.code yX0_oilOfLamps cX0_oilOfLamps 4 (some .int), Cond.fieldLink RX0 85 "LampHills$Town" "lamps" "I", Cond.fieldLink RX0 15 "LampHills$Night" "oil" "[I"]
def wsL_count : List Cond := .codeWith yL_count cL_count 4 (some .int) [(0, 9, 12, 21)] :: ((wsL_count_r1 ++ wsL_count_r2) ++ wsX20 ++ wsX00 ++ wsX10 ++ (vx_atS RX2 227 "java/lang/IndexOutOfBoundsException" ["java/lang/RuntimeException", "java/lang/Exception"]).filter goodWord)
def wsL_pass_r1 : List Cond := [Cond.classLink RL 13 "java/lang/IllegalArgumentException", Cond.methodLink RL 57 yX2_pass, Cond.instanceMethod yX2_pass, Cond.selects RX2 yX2_pass yX2_pass, Cond.initialized RX2, Cond.code yX2_pass cX2_pass 2 (some .int), Cond.fieldLink RX2 19 "LampHills" "night" "LLampHills$Night;", Cond.fieldLink RX2 12 "LampHills" "town" "LLampHills$Town;", Cond.methodLink RX2 30 yX2_requireRange, Cond.static yX2_requireRange, Cond.code yX2_requireRange cX2_requireRange 3 none, Cond.classLink RX2 49 "java/lang/IllegalArgumentException", Cond.initialized "java/lang/IllegalArgumentException", Cond.methodLink RX2 177 yX0_goBy, Cond.instanceMethod yX0_goBy, Cond.selects RX0 yX0_goBy yX0_goBy, Cond.initialized RX0, Cond.code yX0_goBy cX0_goBy 5 (some .int), Cond.fieldLink RX0 52 "LampHills$Night" "minute" "I", Cond.fieldLink RX0 76 "LampHills$Town" "wind" "[I", Cond.methodLink RX0 68 yX0_moveLighters, Cond.instanceMethod yX0_moveLighters, Cond.selects RX0 yX0_moveLighters yX0_moveLighters, Cond.code yX0_moveLighters cX0_moveLighters 4 (some .int)]
def wsL_pass_r2 : List Cond := [Cond.fieldLink RX0 91 "LampHills$Town" "lighters" "I", Cond.fieldLink RX0 37 "LampHills$Night" "goesTo" "[I", Cond.fieldLink RX0 43 "LampHills$Night" "minutesLeft" "[I", Cond.methodLink RX0 111 yX0_lookForLamp, Cond.instanceMethod yX0_lookForLamp, Cond.selects RX0 yX0_lookForLamp yX0_lookForLamp, Cond.code yX0_lookForLamp cX0_lookForLamp 5 none, Cond.fieldLink RX0 122 "LampHills$Town" "rounds" "[[I", Cond.fieldLink RX0 34 "LampHills$Night" "can" "[I", Cond.fieldLink RX0 15 "LampHills$Night" "oil" "[I", Cond.fieldLink RX0 46 "LampHills$Night" "latestPlace" "[I", Cond.fieldLink RX0 40 "LampHills$Night" "goal" "[I", Cond.fieldLink RX0 31 "LampHills$Night" "at" "[I", Cond.fieldLink RX0 130 "LampHills$Town" "ways" "[[I", Cond.methodLink RX0 118 yX0_placeOfNextLamp, Cond.instanceMethod yX0_placeOfNextLamp, Cond.selects RX0 yX0_placeOfNextLamp yX0_placeOfNextLamp, Cond.code yX0_placeOfNextLamp cX0_placeOfNextLamp 7 (some .int), Cond.fieldLink RX0 133 "LampHills$Town" "roundSize" "[I", Cond.fieldLink RX0 21 "LampHills$Night" "burns" "[Z", Cond.methodLink RX0 136 yX0_whoGoesTo, Cond.instanceMethod yX0_whoGoesTo, Cond.selects RX0 yX0_whoGoesTo yX0_whoGoesTo, Cond.code yX0_whoGoesTo cX0_whoGoesTo 4 (some .int)]
def wsL_pass_r3 : List Cond := [Cond.methodLink RX0 139 yX1_canReach, Cond.instanceMethod yX1_canReach, Cond.selects RX1 yX1_canReach yX1_canReach, Cond.initialized RX1, Cond.code yX1_canReach cX1_canReach 4 (some .boolean), Cond.fieldLink RX1 32 "LampHills$Town" "lampHeight" "[I", Cond.fieldLink RX1 44 "LampHills$Town" "ladder" "[I", Cond.fieldLink RX1 17 "LampHills$Town" "ways" "[[I", Cond.constant RX1 57 (1000000), Cond.methodLink RX1 84 yX1_nearerEnd, Cond.instanceMethod yX1_nearerEnd, Cond.selects RX1 yX1_nearerEnd yX1_nearerEnd, Cond.code yX1_nearerEnd cX1_nearerEnd 6 (some .int), Cond.fieldLink RX1 29 "LampHills$Town" "lampStreet" "[I", Cond.fieldLink RX1 20 "LampHills$Town" "firstEnd" "[I", Cond.fieldLink RX1 23 "LampHills$Town" "secondEnd" "[I", Cond.methodLink RX0 126 yX1_nearerEnd, Cond.methodLink RX0 114 yX0_tendLamp, Cond.instanceMethod yX0_tendLamp, Cond.selects RX0 yX0_tendLamp yX0_tendLamp, Cond.code yX0_tendLamp cX0_tendLamp 5 (some .boolean), Cond.methodLink RX0 143 Lib.Math.min.name, Cond.static Lib.Math.min.name, Cond.initialized "java/lang/Math"]
def wsL_pass_r4 : List Cond := [Cond.code Lib.Math.min.name Lib.Math.min.code 2 (some .int), Cond.fieldLink RX0 18 "LampHills$Night" "soot" "[I", Cond.fieldLink RX0 9 "LampHills$Night" "burningIn" "[I", Cond.fieldLink RX0 148 "LampHills$Town" "lampStreet" "[I", Cond.fieldLink RX0 25 "LampHills$Night" "timesLit" "[I", Cond.fieldLink RX0 49 "LampHills$Night" "litBy" "[I", Cond.methodLink RX0 100 yX0_waitFromNow, Cond.instanceMethod yX0_waitFromNow, Cond.selects RX0 yX0_waitFromNow yX0_waitFromNow, Cond.code yX0_waitFromNow cX0_waitFromNow 2 none, Cond.methodLink RX0 72 yX0_burnLamps, Cond.instanceMethod yX0_burnLamps, Cond.selects RX0 yX0_burnLamps yX0_burnLamps, Cond.code yX0_burnLamps cX0_burnLamps 3 none, Cond.fieldLink RX0 85 "LampHills$Town" "lamps" "I", Cond.methodLink RX0 151 yX0_useOil, Cond.instanceMethod yX0_useOil, Cond.selects RX0 yX0_useOil yX0_useOil, Cond.code yX0_useOil cX0_useOil 4 none, Cond.fieldLink RX0 59 "LampHills$Night" "oilUsed" "I", Cond.methodLink RX0 88 yX0_putOut, Cond.instanceMethod yX0_putOut, Cond.selects RX0 yX0_putOut yX0_putOut, Cond.code yX0_putOut cX0_putOut 3 none]
def wsL_pass_r5 : List Cond := [Cond.methodLink RX0 81 yX0_blow, Cond.instanceMethod yX0_blow, Cond.selects RX0 yX0_blow yX0_blow, Cond.code yX0_blow cX0_blow 4 none, Cond.fieldLink RX0 157 "LampHills$Town" "lid" "[I", Cond.fieldLink RX0 28 "LampHills$Night" "timesBlownOut" "[I", Cond.methodLink RX0 154 yX1_windAtLamp, Cond.instanceMethod yX1_windAtLamp, Cond.selects RX1 yX1_windAtLamp yX1_windAtLamp, Cond.code yX1_windAtLamp cX1_windAtLamp 4 (some .int), Cond.fieldLink RX1 9 "LampHills$Town" "height" "[I", Cond.methodLink RX1 75 Lib.Math.max.name, Cond.static Lib.Math.max.name, Cond.code Lib.Math.max.name Lib.Math.max.code 2 (some .int)]
def wsL_pass : List Cond := .codeWith yL_pass cL_pass 4 (some .int) [(0, 9, 12, 13)] :: ((wsL_pass_r1 ++ (wsL_pass_r2 ++ (wsL_pass_r3 ++ (wsL_pass_r4 ++ wsL_pass_r5)))) ++ wsX20 ++ wsX00 ++ wsX10 ++ (vx_atS RX2 53 "java/lang/IllegalArgumentException" ["java/lang/RuntimeException", "java/lang/Exception"]).filter goodWord)
def wsL_dawn_r1 : List Cond := [Cond.classLink RL 15 "java/lang/IllegalStateException", Cond.methodLink RL 60 yX2_dawn, Cond.instanceMethod yX2_dawn, Cond.selects RX2 yX2_dawn yX2_dawn, Cond.initialized RX2, Cond.code yX2_dawn cX2_dawn 2 (some .int), Cond.classLink RX2 93 "java/lang/IllegalStateException", Cond.initialized "java/lang/IllegalStateException", Cond.fieldLink RX2 19 "LampHills" "night" "LLampHills$Night;", Cond.fieldLink RX2 158 "LampHills$Night" "minute" "I", Cond.fieldLink RX2 12 "LampHills" "town" "LLampHills$Town;", Cond.methodLink RX2 164 yX0_burningLamps, Cond.instanceMethod yX0_burningLamps, Cond.selects RX0 yX0_burningLamps yX0_burningLamps, Cond.initialized RX0, Cond.code yX0_burningLamps cX0_burningLamps 4 (some .int), Cond.fieldLink RX0 104 "LampHills$Town" "streets" "I", Cond.fieldLink RX0 9 "LampHills$Night" "burningIn" "[I", Cond.methodLink RX2 182 yX0_beginNext, Cond.instanceMethod yX0_beginNext, Cond.selects RX0 yX0_beginNext yX0_beginNext, Cond.code yX0_beginNext cX0_beginNext 3 none, Cond.fieldLink RX0 52 "LampHills$Night" "minute" "I", Cond.fieldLink RX0 56 "LampHills$Night" "number" "I"]
def wsL_dawn_r2 : List Cond := [Cond.fieldLink RX0 85 "LampHills$Town" "lamps" "I", Cond.fieldLink RX0 21 "LampHills$Night" "burns" "[Z", Cond.fieldLink RX0 91 "LampHills$Town" "lighters" "I", Cond.methodLink RX0 88 yX0_putOut, Cond.instanceMethod yX0_putOut, Cond.selects RX0 yX0_putOut yX0_putOut, Cond.code yX0_putOut cX0_putOut 3 none, Cond.fieldLink RX0 148 "LampHills$Town" "lampStreet" "[I", Cond.methodLink RX0 94 yX0_sendHome, Cond.instanceMethod yX0_sendHome, Cond.selects RX0 yX0_sendHome yX0_sendHome, Cond.code yX0_sendHome cX0_sendHome 3 none, Cond.fieldLink RX0 31 "LampHills$Night" "at" "[I", Cond.fieldLink RX0 97 "LampHills$Town" "home" "[I", Cond.fieldLink RX0 46 "LampHills$Night" "latestPlace" "[I", Cond.methodLink RX0 100 yX0_waitFromNow, Cond.instanceMethod yX0_waitFromNow, Cond.selects RX0 yX0_waitFromNow yX0_waitFromNow, Cond.code yX0_waitFromNow cX0_waitFromNow 2 none, Cond.fieldLink RX0 37 "LampHills$Night" "goesTo" "[I", Cond.fieldLink RX0 43 "LampHills$Night" "minutesLeft" "[I"]
def wsL_dawn : List Cond := .codeWith yL_dawn cL_dawn 3 (some .int) [(0, 8, 11, 15)] :: ((wsL_dawn_r1 ++ wsL_dawn_r2) ++ wsX20 ++ wsX00 ++ wsX10 ++ (vx_atS RX2 97 "java/lang/IllegalStateException" ["java/lang/RuntimeException", "java/lang/Exception"]).filter goodWord)
def wsL_comes_r1 : List Cond := [Cond.classLink RL 21 "java/lang/IndexOutOfBoundsException", Cond.methodLink RL 64 yX2_comes, Cond.instanceMethod yX2_comes, Cond.selects RX2 yX2_comes yX2_comes, Cond.initialized RX2, Cond.code yX2_comes cX2_comes 4 (some .int), Cond.fieldLink RX2 12 "LampHills" "town" "LLampHills$Town;", Cond.fieldLink RX2 63 "LampHills$Town" "lamps" "I", Cond.fieldLink RX2 23 "LampHills" "forecast" "LLampHills$Night;", Cond.fieldLink RX2 19 "LampHills" "night" "LLampHills$Night;", Cond.fieldLink RX2 158 "LampHills$Night" "minute" "I", Cond.fieldLink RX2 134 "LampHills$Night" "timesLit" "[I", Cond.methodLink RX2 46 yX2_requireIndex, Cond.static yX2_requireIndex, Cond.code yX2_requireIndex cX2_requireIndex 2 none, Cond.classLink RX2 223 "java/lang/IndexOutOfBoundsException", Cond.initialized "java/lang/IndexOutOfBoundsException", Cond.methodLink RX2 186 yX0_copy, Cond.instanceMethod yX0_copy, Cond.selects RX0 yX0_copy yX0_copy, Cond.initialized RX0, Cond.code yX0_copy cX0_copy 3 none, Cond.fieldLink RX0 52 "LampHills$Night" "minute" "I", Cond.fieldLink RX0 56 "LampHills$Night" "number" "I"]
def wsL_comes_r2 : List Cond := [Cond.fieldLink RX0 59 "LampHills$Night" "oilUsed" "I", Cond.fieldLink RX0 9 "LampHills$Night" "burningIn" "[I", Cond.methodLink RX0 62 arraycopyName, Cond.native arraycopyName, Cond.static arraycopyName, Cond.initialized "java/lang/System", Cond.fieldLink RX0 15 "LampHills$Night" "oil" "[I", Cond.fieldLink RX0 18 "LampHills$Night" "soot" "[I", Cond.fieldLink RX0 21 "LampHills$Night" "burns" "[Z", Cond.fieldLink RX0 25 "LampHills$Night" "timesLit" "[I", Cond.fieldLink RX0 28 "LampHills$Night" "timesBlownOut" "[I", Cond.fieldLink RX0 31 "LampHills$Night" "at" "[I", Cond.fieldLink RX0 34 "LampHills$Night" "can" "[I", Cond.fieldLink RX0 37 "LampHills$Night" "goesTo" "[I", Cond.fieldLink RX0 40 "LampHills$Night" "goal" "[I", Cond.fieldLink RX0 43 "LampHills$Night" "minutesLeft" "[I", Cond.fieldLink RX0 46 "LampHills$Night" "latestPlace" "[I", Cond.fieldLink RX0 49 "LampHills$Night" "litBy" "[I", Cond.methodLink RX2 177 yX0_goBy, Cond.instanceMethod yX0_goBy, Cond.selects RX0 yX0_goBy yX0_goBy, Cond.code yX0_goBy cX0_goBy 5 (some .int), Cond.fieldLink RX0 76 "LampHills$Town" "wind" "[I", Cond.methodLink RX0 68 yX0_moveLighters]
def wsL_comes_r3 : List Cond := [Cond.instanceMethod yX0_moveLighters, Cond.selects RX0 yX0_moveLighters yX0_moveLighters, Cond.code yX0_moveLighters cX0_moveLighters 4 (some .int), Cond.fieldLink RX0 91 "LampHills$Town" "lighters" "I", Cond.methodLink RX0 111 yX0_lookForLamp, Cond.instanceMethod yX0_lookForLamp, Cond.selects RX0 yX0_lookForLamp yX0_lookForLamp, Cond.code yX0_lookForLamp cX0_lookForLamp 5 none, Cond.fieldLink RX0 122 "LampHills$Town" "rounds" "[[I", Cond.fieldLink RX0 130 "LampHills$Town" "ways" "[[I", Cond.methodLink RX0 118 yX0_placeOfNextLamp, Cond.instanceMethod yX0_placeOfNextLamp, Cond.selects RX0 yX0_placeOfNextLamp yX0_placeOfNextLamp, Cond.code yX0_placeOfNextLamp cX0_placeOfNextLamp 7 (some .int), Cond.fieldLink RX0 133 "LampHills$Town" "roundSize" "[I", Cond.methodLink RX0 136 yX0_whoGoesTo, Cond.instanceMethod yX0_whoGoesTo, Cond.selects RX0 yX0_whoGoesTo yX0_whoGoesTo, Cond.code yX0_whoGoesTo cX0_whoGoesTo 4 (some .int), Cond.methodLink RX0 139 yX1_canReach, Cond.instanceMethod yX1_canReach, Cond.selects RX1 yX1_canReach yX1_canReach, Cond.initialized RX1, Cond.code yX1_canReach cX1_canReach 4 (some .boolean)]
def wsL_comes_r4 : List Cond := [Cond.fieldLink RX1 32 "LampHills$Town" "lampHeight" "[I", Cond.fieldLink RX1 44 "LampHills$Town" "ladder" "[I", Cond.fieldLink RX1 17 "LampHills$Town" "ways" "[[I", Cond.constant RX1 57 (1000000), Cond.methodLink RX1 84 yX1_nearerEnd, Cond.instanceMethod yX1_nearerEnd, Cond.selects RX1 yX1_nearerEnd yX1_nearerEnd, Cond.code yX1_nearerEnd cX1_nearerEnd 6 (some .int), Cond.fieldLink RX1 29 "LampHills$Town" "lampStreet" "[I", Cond.fieldLink RX1 20 "LampHills$Town" "firstEnd" "[I", Cond.fieldLink RX1 23 "LampHills$Town" "secondEnd" "[I", Cond.methodLink RX0 126 yX1_nearerEnd, Cond.methodLink RX0 114 yX0_tendLamp, Cond.instanceMethod yX0_tendLamp, Cond.selects RX0 yX0_tendLamp yX0_tendLamp, Cond.code yX0_tendLamp cX0_tendLamp 5 (some .boolean), Cond.methodLink RX0 143 Lib.Math.min.name, Cond.static Lib.Math.min.name, Cond.initialized "java/lang/Math", Cond.code Lib.Math.min.name Lib.Math.min.code 2 (some .int), Cond.fieldLink RX0 148 "LampHills$Town" "lampStreet" "[I", Cond.methodLink RX0 100 yX0_waitFromNow, Cond.instanceMethod yX0_waitFromNow, Cond.selects RX0 yX0_waitFromNow yX0_waitFromNow]
def wsL_comes_r5 : List Cond := [Cond.code yX0_waitFromNow cX0_waitFromNow 2 none, Cond.methodLink RX0 72 yX0_burnLamps, Cond.instanceMethod yX0_burnLamps, Cond.selects RX0 yX0_burnLamps yX0_burnLamps, Cond.code yX0_burnLamps cX0_burnLamps 3 none, Cond.fieldLink RX0 85 "LampHills$Town" "lamps" "I", Cond.methodLink RX0 151 yX0_useOil, Cond.instanceMethod yX0_useOil, Cond.selects RX0 yX0_useOil yX0_useOil, Cond.code yX0_useOil cX0_useOil 4 none, Cond.methodLink RX0 88 yX0_putOut, Cond.instanceMethod yX0_putOut, Cond.selects RX0 yX0_putOut yX0_putOut, Cond.code yX0_putOut cX0_putOut 3 none, Cond.methodLink RX0 81 yX0_blow, Cond.instanceMethod yX0_blow, Cond.selects RX0 yX0_blow yX0_blow, Cond.code yX0_blow cX0_blow 4 none, Cond.fieldLink RX0 157 "LampHills$Town" "lid" "[I", Cond.methodLink RX0 154 yX1_windAtLamp, Cond.instanceMethod yX1_windAtLamp, Cond.selects RX1 yX1_windAtLamp yX1_windAtLamp, Cond.code yX1_windAtLamp cX1_windAtLamp 4 (some .int), Cond.fieldLink RX1 9 "LampHills$Town" "height" "[I"]
def wsL_comes_r6 : List Cond := [Cond.methodLink RX1 75 Lib.Math.max.name, Cond.static Lib.Math.max.name, Cond.code Lib.Math.max.name Lib.Math.max.code 2 (some .int)]
def wsL_comes : List Cond := .codeWith yL_comes cL_comes 4 (some .int) [(0, 9, 12, 21)] :: ((wsL_comes_r1 ++ (wsL_comes_r2 ++ (wsL_comes_r3 ++ (wsL_comes_r4 ++ (wsL_comes_r5 ++ wsL_comes_r6))))) ++ wsX20 ++ wsX10 ++ wsX00 ++ (vx_atS RX2 227 "java/lang/IndexOutOfBoundsException" ["java/lang/RuntimeException", "java/lang/Exception"]).filter goodWord)
def wsL_needs_r1 : List Cond := [Cond.classLink RL 21 "java/lang/IndexOutOfBoundsException", Cond.methodLink RL 67 yX2_needs, Cond.instanceMethod yX2_needs, Cond.selects RX2 yX2_needs yX2_needs, Cond.initialized RX2, Cond.code yX2_needs cX2_needs 4 (some .int), Cond.fieldLink RX2 12 "LampHills" "town" "LLampHills$Town;", Cond.fieldLink RX2 63 "LampHills$Town" "lamps" "I", Cond.fieldLink RX2 73 "LampHills$Town" "wind" "[I", Cond.methodLink RX2 200 Lib.Math.max.name, Cond.static Lib.Math.max.name, Cond.initialized "java/lang/Math", Cond.code Lib.Math.max.name Lib.Math.max.code 2 (some .int), Cond.methodLink RX2 46 yX2_requireIndex, Cond.static yX2_requireIndex, Cond.code yX2_requireIndex cX2_requireIndex 2 none, Cond.classLink RX2 223 "java/lang/IndexOutOfBoundsException", Cond.initialized "java/lang/IndexOutOfBoundsException", Cond.methodLink RX2 203 yX1_windAtLamp, Cond.instanceMethod yX1_windAtLamp, Cond.selects RX1 yX1_windAtLamp yX1_windAtLamp, Cond.initialized RX1, Cond.code yX1_windAtLamp cX1_windAtLamp 4 (some .int), Cond.fieldLink RX1 29 "LampHills$Town" "lampStreet" "[I"]
def wsL_needs_r2 : List Cond := [Cond.fieldLink RX1 9 "LampHills$Town" "height" "[I", Cond.fieldLink RX1 20 "LampHills$Town" "firstEnd" "[I", Cond.fieldLink RX1 23 "LampHills$Town" "secondEnd" "[I", Cond.methodLink RX1 75 Lib.Math.max.name]
def wsL_needs : List Cond := .codeWith yL_needs cL_needs 4 (some .int) [(0, 9, 12, 21)] :: ((wsL_needs_r1 ++ wsL_needs_r2) ++ wsX20 ++ wsX10 ++ (vx_atS RX2 227 "java/lang/IndexOutOfBoundsException" ["java/lang/RuntimeException", "java/lang/Exception"]).filter goodWord)
def wsL_foresee_r1 : List Cond := [Cond.classLink RL 13 "java/lang/IllegalArgumentException", Cond.classLink RL 21 "java/lang/IndexOutOfBoundsException", Cond.methodLink RL 70 yX2_foresee, Cond.instanceMethod yX2_foresee, Cond.selects RX2 yX2_foresee yX2_foresee, Cond.initialized RX2, Cond.code yX2_foresee cX2_foresee 3 (some .int), Cond.fieldLink RX2 23 "LampHills" "forecast" "LLampHills$Night;", Cond.fieldLink RX2 19 "LampHills" "night" "LLampHills$Night;", Cond.fieldLink RX2 12 "LampHills" "town" "LLampHills$Town;", Cond.fieldLink RX2 174 "LampHills$Night" "oilUsed" "I", Cond.methodLink RX2 30 yX2_requireRange, Cond.static yX2_requireRange, Cond.code yX2_requireRange cX2_requireRange 3 none, Cond.classLink RX2 49 "java/lang/IllegalArgumentException", Cond.initialized "java/lang/IllegalArgumentException", Cond.methodLink RX2 46 yX2_requireIndex, Cond.static yX2_requireIndex, Cond.code yX2_requireIndex cX2_requireIndex 2 none, Cond.classLink RX2 223 "java/lang/IndexOutOfBoundsException", Cond.initialized "java/lang/IndexOutOfBoundsException", Cond.methodLink RX2 186 yX0_copy, Cond.instanceMethod yX0_copy, Cond.selects RX0 yX0_copy yX0_copy]
def wsL_foresee_r2 : List Cond := [Cond.initialized RX0, Cond.code yX0_copy cX0_copy 3 none, Cond.fieldLink RX0 52 "LampHills$Night" "minute" "I", Cond.fieldLink RX0 56 "LampHills$Night" "number" "I", Cond.fieldLink RX0 59 "LampHills$Night" "oilUsed" "I", Cond.fieldLink RX0 9 "LampHills$Night" "burningIn" "[I", Cond.methodLink RX0 62 arraycopyName, Cond.native arraycopyName, Cond.static arraycopyName, Cond.initialized "java/lang/System", Cond.fieldLink RX0 15 "LampHills$Night" "oil" "[I", Cond.fieldLink RX0 18 "LampHills$Night" "soot" "[I", Cond.fieldLink RX0 21 "LampHills$Night" "burns" "[Z", Cond.fieldLink RX0 25 "LampHills$Night" "timesLit" "[I", Cond.fieldLink RX0 28 "LampHills$Night" "timesBlownOut" "[I", Cond.fieldLink RX0 31 "LampHills$Night" "at" "[I", Cond.fieldLink RX0 34 "LampHills$Night" "can" "[I", Cond.fieldLink RX0 37 "LampHills$Night" "goesTo" "[I", Cond.fieldLink RX0 40 "LampHills$Night" "goal" "[I", Cond.fieldLink RX0 43 "LampHills$Night" "minutesLeft" "[I", Cond.fieldLink RX0 46 "LampHills$Night" "latestPlace" "[I", Cond.fieldLink RX0 49 "LampHills$Night" "litBy" "[I", Cond.methodLink RX2 177 yX0_goBy, Cond.instanceMethod yX0_goBy]
def wsL_foresee_r3 : List Cond := [Cond.selects RX0 yX0_goBy yX0_goBy, Cond.code yX0_goBy cX0_goBy 5 (some .int), Cond.fieldLink RX0 76 "LampHills$Town" "wind" "[I", Cond.methodLink RX0 68 yX0_moveLighters, Cond.instanceMethod yX0_moveLighters, Cond.selects RX0 yX0_moveLighters yX0_moveLighters, Cond.code yX0_moveLighters cX0_moveLighters 4 (some .int), Cond.fieldLink RX0 91 "LampHills$Town" "lighters" "I", Cond.methodLink RX0 111 yX0_lookForLamp, Cond.instanceMethod yX0_lookForLamp, Cond.selects RX0 yX0_lookForLamp yX0_lookForLamp, Cond.code yX0_lookForLamp cX0_lookForLamp 5 none, Cond.fieldLink RX0 122 "LampHills$Town" "rounds" "[[I", Cond.fieldLink RX0 130 "LampHills$Town" "ways" "[[I", Cond.methodLink RX0 118 yX0_placeOfNextLamp, Cond.instanceMethod yX0_placeOfNextLamp, Cond.selects RX0 yX0_placeOfNextLamp yX0_placeOfNextLamp, Cond.code yX0_placeOfNextLamp cX0_placeOfNextLamp 7 (some .int), Cond.fieldLink RX0 133 "LampHills$Town" "roundSize" "[I", Cond.methodLink RX0 136 yX0_whoGoesTo, Cond.instanceMethod yX0_whoGoesTo, Cond.selects RX0 yX0_whoGoesTo yX0_whoGoesTo, Cond.code yX0_whoGoesTo cX0_whoGoesTo 4 (some .int), Cond.methodLink RX0 139 yX1_canReach]
def wsL_foresee_r4 : List Cond := [Cond.instanceMethod yX1_canReach, Cond.selects RX1 yX1_canReach yX1_canReach, Cond.initialized RX1, Cond.code yX1_canReach cX1_canReach 4 (some .boolean), Cond.fieldLink RX1 32 "LampHills$Town" "lampHeight" "[I", Cond.fieldLink RX1 44 "LampHills$Town" "ladder" "[I", Cond.fieldLink RX1 17 "LampHills$Town" "ways" "[[I", Cond.constant RX1 57 (1000000), Cond.methodLink RX1 84 yX1_nearerEnd, Cond.instanceMethod yX1_nearerEnd, Cond.selects RX1 yX1_nearerEnd yX1_nearerEnd, Cond.code yX1_nearerEnd cX1_nearerEnd 6 (some .int), Cond.fieldLink RX1 29 "LampHills$Town" "lampStreet" "[I", Cond.fieldLink RX1 20 "LampHills$Town" "firstEnd" "[I", Cond.fieldLink RX1 23 "LampHills$Town" "secondEnd" "[I", Cond.methodLink RX0 126 yX1_nearerEnd, Cond.methodLink RX0 114 yX0_tendLamp, Cond.instanceMethod yX0_tendLamp, Cond.selects RX0 yX0_tendLamp yX0_tendLamp, Cond.code yX0_tendLamp cX0_tendLamp 5 (some .boolean), Cond.methodLink RX0 143 Lib.Math.min.name, Cond.static Lib.Math.min.name, Cond.initialized "java/lang/Math", Cond.code Lib.Math.min.name Lib.Math.min.code 2 (some .int)]
def wsL_foresee_r5 : List Cond := [Cond.fieldLink RX0 148 "LampHills$Town" "lampStreet" "[I", Cond.methodLink RX0 100 yX0_waitFromNow, Cond.instanceMethod yX0_waitFromNow, Cond.selects RX0 yX0_waitFromNow yX0_waitFromNow, Cond.code yX0_waitFromNow cX0_waitFromNow 2 none, Cond.methodLink RX0 72 yX0_burnLamps, Cond.instanceMethod yX0_burnLamps, Cond.selects RX0 yX0_burnLamps yX0_burnLamps, Cond.code yX0_burnLamps cX0_burnLamps 3 none, Cond.fieldLink RX0 85 "LampHills$Town" "lamps" "I", Cond.methodLink RX0 151 yX0_useOil, Cond.instanceMethod yX0_useOil, Cond.selects RX0 yX0_useOil yX0_useOil, Cond.code yX0_useOil cX0_useOil 4 none, Cond.methodLink RX0 88 yX0_putOut, Cond.instanceMethod yX0_putOut, Cond.selects RX0 yX0_putOut yX0_putOut, Cond.code yX0_putOut cX0_putOut 3 none, Cond.methodLink RX0 81 yX0_blow, Cond.instanceMethod yX0_blow, Cond.selects RX0 yX0_blow yX0_blow, Cond.code yX0_blow cX0_blow 4 none, Cond.fieldLink RX0 157 "LampHills$Town" "lid" "[I", Cond.methodLink RX0 154 yX1_windAtLamp]
def wsL_foresee_r6 : List Cond := [Cond.instanceMethod yX1_windAtLamp, Cond.selects RX1 yX1_windAtLamp yX1_windAtLamp, Cond.code yX1_windAtLamp cX1_windAtLamp 4 (some .int), Cond.fieldLink RX1 9 "LampHills$Town" "height" "[I", Cond.methodLink RX1 75 Lib.Math.max.name, Cond.static Lib.Math.max.name, Cond.code Lib.Math.max.name Lib.Math.max.code 2 (some .int), Cond.methodLink RX2 164 yX0_burningLamps, Cond.instanceMethod yX0_burningLamps, Cond.selects RX0 yX0_burningLamps yX0_burningLamps, Cond.code yX0_burningLamps cX0_burningLamps 4 (some .int), Cond.fieldLink RX0 104 "LampHills$Town" "streets" "I", Cond.methodLink RX2 168 yX0_darkStreets, Cond.instanceMethod yX0_darkStreets, Cond.selects RX0 yX0_darkStreets yX0_darkStreets, Cond.code yX0_darkStreets cX0_darkStreets 4 (some .int), Cond.methodLink RX0 107 yX0_isDark, Cond.instanceMethod yX0_isDark, Cond.selects RX0 yX0_isDark yX0_isDark, Cond.code yX0_isDark cX0_isDark 2 (some .boolean)]
def wsL_foresee : List Cond := .codeWith yL_foresee cL_foresee 5 (some .int) [(0, 10, 13, 13), (0, 10, 17, 21)] :: ((wsL_foresee_r1 ++ (wsL_foresee_r2 ++ (wsL_foresee_r3 ++ (wsL_foresee_r4 ++ (wsL_foresee_r5 ++ wsL_foresee_r6))))) ++ wsX20 ++ wsX00 ++ wsX10 ++ (vx_atS RX2 53 "java/lang/IllegalArgumentException" ["java/lang/RuntimeException", "java/lang/Exception"]).filter goodWord ++ (vx_atS RX2 227 "java/lang/IndexOutOfBoundsException" ["java/lang/RuntimeException", "java/lang/Exception"]).filter goodWord)
def wsL_law0_r1 : List Cond := [Cond.classLink RL 8 RX2, Cond.instantiable RX2 4, Cond.initialized RX2, Cond.classLink RL 74 RX3, Cond.instantiable RX3 13, Cond.initialized RX3, Cond.arrayClass .long, Cond.methodLink RL 73 yX2_init, Cond.instanceMethod yX2_init, Cond.code yX2_init cX2_init 1 none, Cond.methodLink RX2 3 objectInit, Cond.instanceMethod objectInit, Cond.code objectInit ⟨#[0xb1]⟩ 1 none, Cond.classLink RX2 9 RX1, Cond.instantiable RX1 17, Cond.initialized RX1, Cond.fieldLink RX2 12 "LampHills" "town" "LLampHills$Town;", Cond.classLink RX2 16 RX0, Cond.instantiable RX0 16, Cond.initialized RX0, Cond.fieldLink RX2 19 "LampHills" "night" "LLampHills$Night;", Cond.fieldLink RX2 23 "LampHills" "forecast" "LLampHills$Night;", Cond.arrayClass .int, Cond.fieldLink RX2 26 "LampHills" "darkMinutes" "[I"]
def wsL_law0_r2 : List Cond := [Cond.instanceMethod yX1_init, Cond.code yX1_init cX1_init 1 none, Cond.methodLink RX1 3 objectInit, Cond.fieldLink RX1 9 "LampHills$Town" "height" "[I", Cond.classLink RX1 15 "[[I", Cond.fieldLink RX1 17 "LampHills$Town" "ways" "[[I", Cond.fieldLink RX1 20 "LampHills$Town" "firstEnd" "[I", Cond.fieldLink RX1 23 "LampHills$Town" "secondEnd" "[I", Cond.fieldLink RX1 26 "LampHills$Town" "length" "[I", Cond.fieldLink RX1 29 "LampHills$Town" "lampStreet" "[I", Cond.fieldLink RX1 32 "LampHills$Town" "lampHeight" "[I", Cond.fieldLink RX1 35 "LampHills$Town" "lid" "[I", Cond.fieldLink RX1 38 "LampHills$Town" "wind" "[I", Cond.fieldLink RX1 41 "LampHills$Town" "home" "[I", Cond.fieldLink RX1 44 "LampHills$Town" "ladder" "[I", Cond.fieldLink RX1 47 "LampHills$Town" "roundSize" "[I", Cond.fieldLink RX1 50 "LampHills$Town" "rounds" "[[I", Cond.instanceMethod yX0_init, Cond.code yX0_init cX0_init 1 none, Cond.methodLink RX0 3 objectInit, Cond.fieldLink RX0 9 "LampHills$Night" "burningIn" "[I", Cond.fieldLink RX0 15 "LampHills$Night" "oil" "[I", Cond.fieldLink RX0 18 "LampHills$Night" "soot" "[I", Cond.arrayClass .boolean]
def wsL_law0_r3 : List Cond := [Cond.fieldLink RX0 21 "LampHills$Night" "burns" "[Z", Cond.fieldLink RX0 25 "LampHills$Night" "timesLit" "[I", Cond.fieldLink RX0 28 "LampHills$Night" "timesBlownOut" "[I", Cond.fieldLink RX0 31 "LampHills$Night" "at" "[I", Cond.fieldLink RX0 34 "LampHills$Night" "can" "[I", Cond.fieldLink RX0 37 "LampHills$Night" "goesTo" "[I", Cond.fieldLink RX0 40 "LampHills$Night" "goal" "[I", Cond.fieldLink RX0 43 "LampHills$Night" "minutesLeft" "[I", Cond.fieldLink RX0 46 "LampHills$Night" "latestPlace" "[I", Cond.fieldLink RX0 49 "LampHills$Night" "litBy" "[I", Cond.methodLink RL 76 yX3_init, Cond.instanceMethod yX3_init, Cond.code yX3_init cX3_init 1 none, Cond.methodLink RX3 1 objectInit, Cond.fieldLink RX3 9 "LampHillsModel" "heights" "[I", Cond.fieldLink RX3 13 "LampHillsModel" "roads" "[I", Cond.fieldLink RX3 16 "LampHillsModel" "ways" "[I", Cond.fieldLink RX3 19 "LampHillsModel" "lights" "[I", Cond.fieldLink RX3 22 "LampHillsModel" "people" "[I", Cond.fieldLink RX3 25 "LampHillsModel" "rounds" "[I", Cond.fieldLink RX3 28 "LampHillsModel" "winds" "[I", Cond.fieldLink RX3 31 "LampHillsModel" "numbers" "[I", Cond.methodLink RL 77 yL_corner, Cond.static yL_corner]
def wsL_law0_r4 : List Cond := [Cond.initialized RL, Cond.codeWith yL_corner cL_corner 4 (some .int) [(0, 9, 12, 13), (0, 9, 15, 15)], Cond.classLink RL 13 "java/lang/IllegalArgumentException", Cond.classLink RL 15 "java/lang/IllegalStateException", Cond.methodLink RL 7 yX2_corner, Cond.instanceMethod yX2_corner, Cond.selects RX2 yX2_corner yX2_corner, Cond.code yX2_corner cX2_corner 2 (some .int), Cond.fieldLink RX2 34 "LampHills$Town" "corners" "I", Cond.methodLink RX2 30 yX2_requireRange, Cond.static yX2_requireRange, Cond.code yX2_requireRange cX2_requireRange 3 none, Cond.classLink RX2 49 "java/lang/IllegalArgumentException", Cond.initialized "java/lang/IllegalArgumentException", Cond.methodLink RX2 38 yX2_requireRoom, Cond.static yX2_requireRoom, Cond.code yX2_requireRoom cX2_requireRoom 2 none, Cond.classLink RX2 93 "java/lang/IllegalStateException", Cond.initialized "java/lang/IllegalStateException", Cond.methodLink RX2 42 yX1_addCorner, Cond.instanceMethod yX1_addCorner, Cond.selects RX1 yX1_addCorner yX1_addCorner, Cond.code yX1_addCorner cX1_addCorner 4 (some .int), Cond.fieldLink RX1 53 "LampHills$Town" "corners" "I"]
def wsL_law0_r5 : List Cond := [Cond.constant RX1 57 (1000000), Cond.methodLink RL 82 yX3_corner, Cond.instanceMethod yX3_corner, Cond.selects RX3 yX3_corner yX3_corner, Cond.code yX3_corner cX3_corner 2 (some .int), Cond.fieldLink RX3 34 "LampHillsModel" "thrown" "I", Cond.fieldLink RX3 38 "LampHillsModel" "corners" "I", Cond.methodLink RX3 41 yX3_isIn, Cond.static yX3_isIn, Cond.code yX3_isIn cX3_isIn 3 (some .boolean), Cond.methodLink RX3 66 yX3_fail, Cond.instanceMethod yX3_fail, Cond.selects RX3 yX3_fail yX3_fail, Cond.code yX3_fail cX3_fail 2 (some .int), Cond.methodLink RX3 70 yX3_reckon, Cond.instanceMethod yX3_reckon, Cond.selects RX3 yX3_reckon yX3_reckon, Cond.code yX3_reckon cX3_reckon 6 none, Cond.fieldLink RX3 45 "LampHillsModel" "streets" "I", Cond.methodLink RX3 58 Lib.Math.max.name, Cond.static Lib.Math.max.name, Cond.initialized "java/lang/Math", Cond.code Lib.Math.max.name Lib.Math.max.code 2 (some .int), Cond.methodLink RX3 63 Lib.Math.min.name]
def wsL_law0_r6 : List Cond := [Cond.static Lib.Math.min.name, Cond.code Lib.Math.min.name Lib.Math.min.code 2 (some .int), Cond.methodLink RX3 54 yX3_ro, Cond.instanceMethod yX3_ro, Cond.selects RX3 yX3_ro yX3_ro, Cond.code yX3_ro cX3_ro 3 (some .int), Cond.methodLink RL 83 yX3_thrown, Cond.instanceMethod yX3_thrown, Cond.selects RX3 yX3_thrown yX3_thrown, Cond.code yX3_thrown cX3_thrown 1 (some .int), Cond.methodLink RL 86 yL_street, Cond.static yL_street, Cond.codeWith yL_street cL_street 6 (some .int) [(0, 12, 15, 21), (0, 12, 19, 13), (0, 12, 23, 15)], Cond.classLink RL 21 "java/lang/IndexOutOfBoundsException", Cond.methodLink RL 17 yX2_street, Cond.instanceMethod yX2_street, Cond.selects RX2 yX2_street yX2_street, Cond.code yX2_street cX2_street 4 (some .int), Cond.fieldLink RX2 56 "LampHills$Town" "streets" "I", Cond.methodLink RX2 46 yX2_requireIndex, Cond.static yX2_requireIndex, Cond.code yX2_requireIndex cX2_requireIndex 2 none, Cond.classLink RX2 223 "java/lang/IndexOutOfBoundsException", Cond.initialized "java/lang/IndexOutOfBoundsException"]
def wsL_law0_r7 : List Cond := [Cond.methodLink RX2 59 yX1_addStreet, Cond.instanceMethod yX1_addStreet, Cond.selects RX1 yX1_addStreet yX1_addStreet, Cond.code yX1_addStreet cX1_addStreet 5 (some .int), Cond.fieldLink RX1 58 "LampHills$Town" "streets" "I", Cond.methodLink RX1 61 yX1_minutesAlong, Cond.instanceMethod yX1_minutesAlong, Cond.selects RX1 yX1_minutesAlong yX1_minutesAlong, Cond.code yX1_minutesAlong cX1_minutesAlong 4 (some .int), Cond.methodLink RX1 75 Lib.Math.max.name, Cond.methodLink RX1 65 yX1_shortenWays, Cond.instanceMethod yX1_shortenWays, Cond.selects RX1 yX1_shortenWays yX1_shortenWays, Cond.code yX1_shortenWays cX1_shortenWays 7 none, Cond.methodLink RX1 81 Lib.Math.min.name, Cond.methodLink RL 89 yX3_street, Cond.instanceMethod yX3_street, Cond.selects RX3 yX3_street yX3_street, Cond.code yX3_street cX3_street 5 (some .int), Cond.methodLink RX3 77 arraycopyName, Cond.native arraycopyName, Cond.static arraycopyName, Cond.initialized "java/lang/System", Cond.methodLink RX3 73 yX3_isCorner]
def wsL_law0_r8 : List Cond := [Cond.instanceMethod yX3_isCorner, Cond.selects RX3 yX3_isCorner yX3_isCorner, Cond.code yX3_isCorner cX3_isCorner 2 (some .boolean), Cond.methodLink RL 90 yL_lamp, Cond.static yL_lamp, Cond.codeWith yL_lamp cL_lamp 5 (some .int) [(0, 10, 13, 21), (0, 10, 17, 13), (0, 10, 21, 15)], Cond.methodLink RL 23 yX2_lamp, Cond.instanceMethod yX2_lamp, Cond.selects RX2 yX2_lamp yX2_lamp, Cond.code yX2_lamp cX2_lamp 3 (some .int), Cond.fieldLink RX2 63 "LampHills$Town" "lamps" "I", Cond.methodLink RX2 66 yX1_addLamp, Cond.instanceMethod yX1_addLamp, Cond.selects RX1 yX1_addLamp yX1_addLamp, Cond.code yX1_addLamp cX1_addLamp 4 (some .int), Cond.fieldLink RX1 69 "LampHills$Town" "lamps" "I", Cond.methodLink RL 93 yX3_lamp, Cond.instanceMethod yX3_lamp, Cond.selects RX3 yX3_lamp yX3_lamp, Cond.code yX3_lamp cX3_lamp 4 (some .int), Cond.fieldLink RX3 48 "LampHillsModel" "lamps" "I", Cond.methodLink RX3 83 yX3_isStreet, Cond.instanceMethod yX3_isStreet, Cond.selects RX3 yX3_isStreet yX3_isStreet]
def wsL_law0_r9 : List Cond := [Cond.code yX3_isStreet cX3_isStreet 2 (some .boolean), Cond.methodLink RL 94 yL_lid, Cond.static yL_lid, Cond.codeWith yL_lid cL_lid 5 (some .int) [(0, 10, 13, 21), (0, 10, 17, 13)], Cond.methodLink RL 27 yX2_lid, Cond.instanceMethod yX2_lid, Cond.selects RX2 yX2_lid yX2_lid, Cond.code yX2_lid cX2_lid 4 (some .int), Cond.fieldLink RX2 70 "LampHills$Town" "lid" "[I", Cond.methodLink RL 96 yX3_lid, Cond.instanceMethod yX3_lid, Cond.selects RX3 yX3_lid yX3_lid, Cond.code yX3_lid cX3_lid 4 (some .int), Cond.methodLink RX3 86 yX3_isLamp, Cond.instanceMethod yX3_isLamp, Cond.selects RX3 yX3_isLamp yX3_isLamp, Cond.code yX3_isLamp cX3_isLamp 2 (some .boolean), Cond.methodLink RX3 89 yX3_la, Cond.instanceMethod yX3_la, Cond.selects RX3 yX3_la yX3_la, Cond.code yX3_la cX3_la 3 (some .int), Cond.methodLink RX3 92 yX3_setLamp, Cond.instanceMethod yX3_setLamp, Cond.selects RX3 yX3_setLamp yX3_setLamp]
def wsL_law0_r10 : List Cond := [Cond.code yX3_setLamp cX3_setLamp 4 none, Cond.methodLink RL 97 yL_setWind, Cond.static yL_setWind, Cond.codeWith yL_setWind cL_setWind 5 (some .int) [(0, 10, 13, 21), (0, 10, 17, 13)], Cond.methodLink RL 30 yX2_setWind, Cond.instanceMethod yX2_setWind, Cond.selects RX2 yX2_setWind yX2_setWind, Cond.code yX2_setWind cX2_setWind 4 (some .int), Cond.fieldLink RX2 73 "LampHills$Town" "wind" "[I", Cond.methodLink RL 99 yX3_setWind, Cond.instanceMethod yX3_setWind, Cond.selects RX3 yX3_setWind yX3_setWind, Cond.code yX3_setWind cX3_setWind 4 (some .int), Cond.methodLink RL 100 yL_hire, Cond.static yL_hire, Cond.codeWith yL_hire cL_hire 6 (some .int) [(0, 12, 15, 21), (0, 12, 19, 13), (0, 12, 23, 15)], Cond.methodLink RL 33 yX2_hire, Cond.instanceMethod yX2_hire, Cond.selects RX2 yX2_hire yX2_hire, Cond.code yX2_hire cX2_hire 5 (some .int), Cond.fieldLink RX2 76 "LampHills$Town" "lighters" "I", Cond.fieldLink RX2 82 "LampHills$Night" "can" "[I", Cond.methodLink RX2 79 yX1_addLighter, Cond.instanceMethod yX1_addLighter]
def wsL_law0_r11 : List Cond := [Cond.selects RX1 yX1_addLighter yX1_addLighter, Cond.code yX1_addLighter cX1_addLighter 4 (some .int), Cond.fieldLink RX1 72 "LampHills$Town" "lighters" "I", Cond.methodLink RX2 85 yX0_sendHome, Cond.instanceMethod yX0_sendHome, Cond.selects RX0 yX0_sendHome yX0_sendHome, Cond.code yX0_sendHome cX0_sendHome 3 none, Cond.fieldLink RX0 97 "LampHills$Town" "home" "[I", Cond.methodLink RX0 100 yX0_waitFromNow, Cond.instanceMethod yX0_waitFromNow, Cond.selects RX0 yX0_waitFromNow yX0_waitFromNow, Cond.code yX0_waitFromNow cX0_waitFromNow 2 none, Cond.methodLink RL 102 yX3_hire, Cond.instanceMethod yX3_hire, Cond.selects RX3 yX3_hire yX3_hire, Cond.code yX3_hire cX3_hire 5 (some .int), Cond.fieldLink RX3 51 "LampHillsModel" "lighters" "I", Cond.methodLink RL 103 yL_round, Cond.static yL_round, Cond.codeWith yL_round cL_round 5 (some .int) [(0, 10, 13, 21), (0, 10, 17, 15)], Cond.methodLink RL 36 yX2_round, Cond.instanceMethod yX2_round, Cond.selects RX2 yX2_round yX2_round, Cond.code yX2_round cX2_round 3 (some .int)]
def wsL_law0_r12 : List Cond := [Cond.fieldLink RX2 98 "LampHills$Town" "roundSize" "[I", Cond.methodLink RX2 89 yX1_isInRound, Cond.instanceMethod yX1_isInRound, Cond.selects RX1 yX1_isInRound yX1_isInRound, Cond.code yX1_isInRound cX1_isInRound 4 (some .boolean), Cond.methodLink RX2 101 yX1_addToRound, Cond.instanceMethod yX1_addToRound, Cond.selects RX1 yX1_addToRound yX1_addToRound, Cond.code yX1_addToRound cX1_addToRound 3 (some .int), Cond.methodLink RL 105 yX3_round, Cond.instanceMethod yX3_round, Cond.selects RX3 yX3_round yX3_round, Cond.code yX3_round cX3_round 6 (some .int), Cond.methodLink RX3 96 yX3_isLighter, Cond.instanceMethod yX3_isLighter, Cond.selects RX3 yX3_isLighter yX3_isLighter, Cond.code yX3_isLighter cX3_isLighter 2 (some .boolean), Cond.methodLink RX3 99 yX3_pe, Cond.instanceMethod yX3_pe, Cond.selects RX3 yX3_pe yX3_pe, Cond.code yX3_pe cX3_pe 3 (some .int), Cond.methodLink RX3 102 yX3_put, Cond.instanceMethod yX3_put, Cond.selects RX3 yX3_put yX3_put]
def wsL_law0_r13 : List Cond := [Cond.code yX3_put cX3_put 4 none, Cond.methodLink RL 106 yL_fill, Cond.static yL_fill, Cond.codeWith yL_fill cL_fill 5 (some .int) [(0, 10, 13, 21), (0, 10, 17, 13)], Cond.methodLink RL 39 yX2_fill, Cond.instanceMethod yX2_fill, Cond.selects RX2 yX2_fill yX2_fill, Cond.code yX2_fill cX2_fill 3 (some .int), Cond.methodLink RX2 104 Lib.Math.min.name, Cond.methodLink RL 108 yX3_fill, Cond.instanceMethod yX3_fill, Cond.selects RX3 yX3_fill yX3_fill, Cond.code yX3_fill cX3_fill 3 (some .int), Cond.methodLink RL 109 yL_way, Cond.static yL_way, Cond.codeWith yL_way cL_way 5 (some .int) [(0, 10, 13, 21)], Cond.methodLink RL 42 yX2_way, Cond.instanceMethod yX2_way, Cond.selects RX2 yX2_way yX2_way, Cond.code yX2_way cX2_way 4 (some .int), Cond.fieldLink RX2 109 "LampHills$Town" "ways" "[[I", Cond.constant RX2 113 (1000000), Cond.methodLink RL 111 yX3_way, Cond.instanceMethod yX3_way]
def wsL_law0_r14 : List Cond := [Cond.selects RX3 yX3_way yX3_way, Cond.code yX3_way cX3_way 3 (some .int), Cond.methodLink RX3 105 yX3_away, Cond.instanceMethod yX3_away, Cond.selects RX3 yX3_away yX3_away, Cond.code yX3_away cX3_away 3 (some .int), Cond.methodLink RL 112 yL_told, Cond.static yL_told, Cond.codeWith yL_told cL_told 5 (some .int) [(0, 10, 13, 21)], Cond.methodLink RL 45 yX2_told, Cond.instanceMethod yX2_told, Cond.selects RX2 yX2_told yX2_told, Cond.code yX2_told cX2_told 3 (some .int), Cond.fieldLink RX2 114 "LampHills$Town" "lampStreet" "[I", Cond.fieldLink RX2 117 "LampHills$Town" "lampHeight" "[I", Cond.fieldLink RX2 120 "LampHills$Night" "oil" "[I", Cond.fieldLink RX2 123 "LampHills$Night" "soot" "[I", Cond.fieldLink RX2 126 "LampHills$Night" "burns" "[Z", Cond.fieldLink RX2 134 "LampHills$Night" "timesLit" "[I", Cond.fieldLink RX2 137 "LampHills$Night" "timesBlownOut" "[I", Cond.methodLink RX2 130 yX0_whoGoesTo, Cond.instanceMethod yX0_whoGoesTo, Cond.selects RX0 yX0_whoGoesTo yX0_whoGoesTo, Cond.code yX0_whoGoesTo cX0_whoGoesTo 4 (some .int)]
def wsL_law0_r15 : List Cond := [Cond.fieldLink RX0 91 "LampHills$Town" "lighters" "I", Cond.methodLink RL 114 yX3_told, Cond.instanceMethod yX3_told, Cond.selects RX3 yX3_told yX3_told, Cond.code yX3_told cX3_told 3 (some .int), Cond.methodLink RX3 111 yX3_lampTold, Cond.instanceMethod yX3_lampTold, Cond.selects RX3 yX3_lampTold yX3_lampTold, Cond.code yX3_lampTold cX3_lampTold 3 (some .int), Cond.methodLink RX3 108 yX3_goer, Cond.instanceMethod yX3_goer, Cond.selects RX3 yX3_goer yX3_goer, Cond.code yX3_goer cX3_goer 3 (some .int), Cond.methodLink RL 115 yL_lighter, Cond.static yL_lighter, Cond.codeWith yL_lighter cL_lighter 5 (some .int) [(0, 10, 13, 21)], Cond.methodLink RL 48 yX2_lighter, Cond.instanceMethod yX2_lighter, Cond.selects RX2 yX2_lighter yX2_lighter, Cond.code yX2_lighter cX2_lighter 3 (some .int), Cond.fieldLink RX2 140 "LampHills$Night" "at" "[I", Cond.fieldLink RX2 143 "LampHills$Town" "ladder" "[I", Cond.fieldLink RX2 146 "LampHills$Night" "goesTo" "[I", Cond.fieldLink RX2 149 "LampHills$Night" "minutesLeft" "[I"]
def wsL_law0_r16 : List Cond := [Cond.fieldLink RX2 152 "LampHills$Night" "litBy" "[I", Cond.methodLink RL 117 yX3_lighter, Cond.instanceMethod yX3_lighter, Cond.selects RX3 yX3_lighter yX3_lighter, Cond.code yX3_lighter cX3_lighter 3 (some .int), Cond.methodLink RX3 114 yX3_lighterTold, Cond.instanceMethod yX3_lighterTold, Cond.selects RX3 yX3_lighterTold yX3_lighterTold, Cond.code yX3_lighterTold cX3_lighterTold 4 (some .int), Cond.methodLink RL 118 yL_burning, Cond.static yL_burning, Cond.codeWith yL_burning cL_burning 4 (some .int) [(0, 9, 12, 21)], Cond.methodLink RL 51 yX2_burning, Cond.instanceMethod yX2_burning, Cond.selects RX2 yX2_burning yX2_burning, Cond.code yX2_burning cX2_burning 2 (some .int), Cond.fieldLink RX2 155 "LampHills$Night" "burningIn" "[I", Cond.methodLink RL 120 yX3_burning, Cond.instanceMethod yX3_burning, Cond.selects RX3 yX3_burning yX3_burning, Cond.code yX3_burning cX3_burning 2 (some .int), Cond.methodLink RX3 117 yX3_burns, Cond.instanceMethod yX3_burns, Cond.selects RX3 yX3_burns yX3_burns]
def wsL_law0_r17 : List Cond := [Cond.code yX3_burns cX3_burns 4 (some .int), Cond.methodLink RL 121 yL_count, Cond.static yL_count, Cond.codeWith yL_count cL_count 4 (some .int) [(0, 9, 12, 21)], Cond.methodLink RL 54 yX2_count, Cond.instanceMethod yX2_count, Cond.selects RX2 yX2_count yX2_count, Cond.code yX2_count cX2_count 2 (some .int), Cond.fieldLink RX2 158 "LampHills$Night" "minute" "I", Cond.fieldLink RX2 161 "LampHills$Night" "number" "I", Cond.fieldLink RX2 174 "LampHills$Night" "oilUsed" "I", Cond.methodLink RX2 164 yX0_burningLamps, Cond.instanceMethod yX0_burningLamps, Cond.selects RX0 yX0_burningLamps yX0_burningLamps, Cond.code yX0_burningLamps cX0_burningLamps 4 (some .int), Cond.fieldLink RX0 104 "LampHills$Town" "streets" "I", Cond.methodLink RX2 168 yX0_darkStreets, Cond.instanceMethod yX0_darkStreets, Cond.selects RX0 yX0_darkStreets yX0_darkStreets, Cond.code yX0_darkStreets cX0_darkStreets 4 (some .int), Cond.methodLink RX0 107 yX0_isDark, Cond.instanceMethod yX0_isDark, Cond.selects RX0 yX0_isDark yX0_isDark, Cond.code yX0_isDark cX0_isDark 2 (some .boolean)]
def wsL_law0_r18 : List Cond := [Cond.methodLink RX2 171 yX0_oilOfLamps, Cond.instanceMethod yX0_oilOfLamps, Cond.selects RX0 yX0_oilOfLamps yX0_oilOfLamps, Cond.code yX0_oilOfLamps cX0_oilOfLamps 4 (some .int), Cond.fieldLink RX0 85 "LampHills$Town" "lamps" "I", Cond.methodLink RL 123 yX3_count, Cond.instanceMethod yX3_count, Cond.selects RX3 yX3_count yX3_count, Cond.code yX3_count cX3_count 2 (some .int), Cond.methodLink RX3 127 yX3_counted, Cond.instanceMethod yX3_counted, Cond.selects RX3 yX3_counted yX3_counted, Cond.code yX3_counted cX3_counted 3 (some .int), Cond.methodLink RX3 120 yX3_all, Cond.instanceMethod yX3_all, Cond.selects RX3 yX3_all yX3_all, Cond.code yX3_all cX3_all 4 (some .int), Cond.methodLink RX3 123 yX3_dark, Cond.instanceMethod yX3_dark, Cond.selects RX3 yX3_dark yX3_dark, Cond.code yX3_dark cX3_dark 3 (some .int), Cond.methodLink RL 124 yL_pass, Cond.static yL_pass, Cond.codeWith yL_pass cL_pass 4 (some .int) [(0, 9, 12, 13)]]
def wsL_law0_r19 : List Cond := [Cond.methodLink RL 57 yX2_pass, Cond.instanceMethod yX2_pass, Cond.selects RX2 yX2_pass yX2_pass, Cond.code yX2_pass cX2_pass 2 (some .int), Cond.methodLink RX2 177 yX0_goBy, Cond.instanceMethod yX0_goBy, Cond.selects RX0 yX0_goBy yX0_goBy, Cond.code yX0_goBy cX0_goBy 5 (some .int), Cond.fieldLink RX0 52 "LampHills$Night" "minute" "I", Cond.fieldLink RX0 76 "LampHills$Town" "wind" "[I", Cond.methodLink RX0 68 yX0_moveLighters, Cond.instanceMethod yX0_moveLighters, Cond.selects RX0 yX0_moveLighters yX0_moveLighters, Cond.code yX0_moveLighters cX0_moveLighters 4 (some .int), Cond.methodLink RX0 111 yX0_lookForLamp, Cond.instanceMethod yX0_lookForLamp, Cond.selects RX0 yX0_lookForLamp yX0_lookForLamp, Cond.code yX0_lookForLamp cX0_lookForLamp 5 none, Cond.fieldLink RX0 122 "LampHills$Town" "rounds" "[[I", Cond.fieldLink RX0 130 "LampHills$Town" "ways" "[[I", Cond.methodLink RX0 118 yX0_placeOfNextLamp, Cond.instanceMethod yX0_placeOfNextLamp, Cond.selects RX0 yX0_placeOfNextLamp yX0_placeOfNextLamp, Cond.code yX0_placeOfNextLamp cX0_placeOfNextLamp 7 (some .int)]
def wsL_law0_r20 : List Cond := [Cond.fieldLink RX0 133 "LampHills$Town" "roundSize" "[I", Cond.methodLink RX0 136 yX0_whoGoesTo, Cond.methodLink RX0 139 yX1_canReach, Cond.instanceMethod yX1_canReach, Cond.selects RX1 yX1_canReach yX1_canReach, Cond.code yX1_canReach cX1_canReach 4 (some .boolean), Cond.methodLink RX1 84 yX1_nearerEnd, Cond.instanceMethod yX1_nearerEnd, Cond.selects RX1 yX1_nearerEnd yX1_nearerEnd, Cond.code yX1_nearerEnd cX1_nearerEnd 6 (some .int), Cond.methodLink RX0 126 yX1_nearerEnd, Cond.methodLink RX0 114 yX0_tendLamp, Cond.instanceMethod yX0_tendLamp, Cond.selects RX0 yX0_tendLamp yX0_tendLamp, Cond.code yX0_tendLamp cX0_tendLamp 5 (some .boolean), Cond.methodLink RX0 143 Lib.Math.min.name, Cond.fieldLink RX0 148 "LampHills$Town" "lampStreet" "[I", Cond.methodLink RX0 72 yX0_burnLamps, Cond.instanceMethod yX0_burnLamps, Cond.selects RX0 yX0_burnLamps yX0_burnLamps, Cond.code yX0_burnLamps cX0_burnLamps 3 none, Cond.methodLink RX0 151 yX0_useOil, Cond.instanceMethod yX0_useOil, Cond.selects RX0 yX0_useOil yX0_useOil]
def wsL_law0_r21 : List Cond := [Cond.code yX0_useOil cX0_useOil 4 none, Cond.fieldLink RX0 59 "LampHills$Night" "oilUsed" "I", Cond.methodLink RX0 88 yX0_putOut, Cond.instanceMethod yX0_putOut, Cond.selects RX0 yX0_putOut yX0_putOut, Cond.code yX0_putOut cX0_putOut 3 none, Cond.methodLink RX0 81 yX0_blow, Cond.instanceMethod yX0_blow, Cond.selects RX0 yX0_blow yX0_blow, Cond.code yX0_blow cX0_blow 4 none, Cond.fieldLink RX0 157 "LampHills$Town" "lid" "[I", Cond.methodLink RX0 154 yX1_windAtLamp, Cond.instanceMethod yX1_windAtLamp, Cond.selects RX1 yX1_windAtLamp yX1_windAtLamp, Cond.code yX1_windAtLamp cX1_windAtLamp 4 (some .int), Cond.methodLink RL 126 yX3_pass, Cond.instanceMethod yX3_pass, Cond.selects RX3 yX3_pass yX3_pass, Cond.code yX3_pass cX3_pass 3 (some .int), Cond.methodLink RX3 153 yX3_minutesOn, Cond.instanceMethod yX3_minutesOn, Cond.selects RX3 yX3_minutesOn yX3_minutesOn, Cond.code yX3_minutesOn cX3_minutesOn 3 none, Cond.methodLink RX3 146 yX3_isOver]
def wsL_law0_r22 : List Cond := [Cond.instanceMethod yX3_isOver, Cond.selects RX3 yX3_isOver yX3_isOver, Cond.code yX3_isOver cX3_isOver 1 (some .boolean), Cond.methodLink RX3 150 yX3_minuteOn, Cond.instanceMethod yX3_minuteOn, Cond.selects RX3 yX3_minuteOn yX3_minuteOn, Cond.code yX3_minuteOn cX3_minuteOn 4 (some .int), Cond.methodLink RX3 140 yX3_goOn, Cond.instanceMethod yX3_goOn, Cond.selects RX3 yX3_goOn yX3_goOn, Cond.code yX3_goOn cX3_goOn 4 (some .int), Cond.methodLink RX3 133 yX3_look, Cond.instanceMethod yX3_look, Cond.selects RX3 yX3_look yX3_look, Cond.code yX3_look cX3_look 6 none, Cond.methodLink RX3 130 yX3_corner_, Cond.instanceMethod yX3_corner_, Cond.selects RX3 yX3_corner_ yX3_corner_, Cond.code yX3_corner_ cX3_corner_ 6 (some .int), Cond.methodLink RX3 143 yX3_burn, Cond.instanceMethod yX3_burn, Cond.selects RX3 yX3_burn yX3_burn, Cond.code yX3_burn cX3_burn 3 none, Cond.methodLink RX3 137 yX3_gust]
def wsL_law0_r23 : List Cond := [Cond.instanceMethod yX3_gust, Cond.selects RX3 yX3_gust yX3_gust, Cond.code yX3_gust cX3_gust 3 (some .int), Cond.methodLink RL 127 yL_dawn, Cond.static yL_dawn, Cond.codeWith yL_dawn cL_dawn 3 (some .int) [(0, 8, 11, 15)], Cond.methodLink RL 60 yX2_dawn, Cond.instanceMethod yX2_dawn, Cond.selects RX2 yX2_dawn yX2_dawn, Cond.code yX2_dawn cX2_dawn 2 (some .int), Cond.methodLink RX2 182 yX0_beginNext, Cond.instanceMethod yX0_beginNext, Cond.selects RX0 yX0_beginNext yX0_beginNext, Cond.code yX0_beginNext cX0_beginNext 3 none, Cond.fieldLink RX0 56 "LampHills$Night" "number" "I", Cond.methodLink RX0 94 yX0_sendHome, Cond.methodLink RL 130 yX3_dawn, Cond.instanceMethod yX3_dawn, Cond.selects RX3 yX3_dawn yX3_dawn, Cond.code yX3_dawn cX3_dawn 3 (some .int), Cond.methodLink RL 131 yL_comes, Cond.static yL_comes, Cond.codeWith yL_comes cL_comes 4 (some .int) [(0, 9, 12, 21)], Cond.methodLink RL 64 yX2_comes]
def wsL_law0_r24 : List Cond := [Cond.instanceMethod yX2_comes, Cond.selects RX2 yX2_comes yX2_comes, Cond.code yX2_comes cX2_comes 4 (some .int), Cond.methodLink RX2 186 yX0_copy, Cond.instanceMethod yX0_copy, Cond.selects RX0 yX0_copy yX0_copy, Cond.code yX0_copy cX0_copy 3 none, Cond.methodLink RX0 62 arraycopyName, Cond.methodLink RL 133 yX3_comes, Cond.instanceMethod yX3_comes, Cond.selects RX3 yX3_comes yX3_comes, Cond.code yX3_comes cX3_comes 5 (some .int), Cond.methodLink RX3 161 yX3_kept, Cond.instanceMethod yX3_kept, Cond.selects RX3 yX3_kept yX3_kept, Cond.code yX3_kept cX3_kept 1 (some (.array (.array .int))), Cond.classLink RX3 156 "[I", Cond.methodLink RX3 157 ⟨"[I", "clone", "()Ljava/lang/Object;"⟩, Cond.sameMethod "[I" "java/lang/Object" "clone" "()Ljava/lang/Object;", Cond.native ⟨"java/lang/Object", "clone", "()Ljava/lang/Object;"⟩, Cond.instanceMethod ⟨"java/lang/Object", "clone", "()Ljava/lang/Object;"⟩, Cond.selects "[I" ⟨"[I", "clone", "()Ljava/lang/Object;"⟩ ⟨"java/lang/Object", "clone", "()Ljava/lang/Object;"⟩, Cond.methodLink RX3 165 yX3_bringBack, Cond.instanceMethod yX3_bringBack]
def wsL_law0_r25 : List Cond := [Cond.selects RX3 yX3_bringBack yX3_bringBack, Cond.code yX3_bringBack cX3_bringBack 2 none, Cond.methodLink RL 134 yX2_darkest, Cond.instanceMethod yX2_darkest, Cond.selects RX2 yX2_darkest yX2_darkest, Cond.code yX2_darkest cX2_darkest 3 (some .int), Cond.methodLink RX2 190 yX2_clearDarkMinutes, Cond.instanceMethod yX2_clearDarkMinutes, Cond.selects RX2 yX2_clearDarkMinutes yX2_clearDarkMinutes, Cond.code yX2_clearDarkMinutes cX2_clearDarkMinutes 2 none, Cond.methodLink RX2 193 yX2_addDarkMinute, Cond.instanceMethod yX2_addDarkMinute, Cond.selects RX2 yX2_addDarkMinute yX2_addDarkMinute, Cond.code yX2_addDarkMinute cX2_addDarkMinute 2 none, Cond.methodLink RX2 232 yX0_isDark, Cond.methodLink RX2 196 yX2_streetOfMostDarkMinutes, Cond.instanceMethod yX2_streetOfMostDarkMinutes, Cond.selects RX2 yX2_streetOfMostDarkMinutes yX2_streetOfMostDarkMinutes, Cond.code yX2_streetOfMostDarkMinutes cX2_streetOfMostDarkMinutes 4 (some .int), Cond.methodLink RL 137 yX3_darkest, Cond.instanceMethod yX3_darkest, Cond.selects RX3 yX3_darkest yX3_darkest, Cond.code yX3_darkest cX3_darkest 5 (some .int), Cond.methodLink RL 138 yL_needs]
def wsL_law0_r26 : List Cond := [Cond.static yL_needs, Cond.codeWith yL_needs cL_needs 4 (some .int) [(0, 9, 12, 21)], Cond.methodLink RL 67 yX2_needs, Cond.instanceMethod yX2_needs, Cond.selects RX2 yX2_needs yX2_needs, Cond.code yX2_needs cX2_needs 4 (some .int), Cond.methodLink RX2 200 Lib.Math.max.name, Cond.methodLink RX2 203 yX1_windAtLamp, Cond.methodLink RL 140 yX3_needs, Cond.instanceMethod yX3_needs, Cond.selects RX3 yX3_needs yX3_needs, Cond.code yX3_needs cX3_needs 7 (some .int), Cond.methodLink RL 141 yL_foresee, Cond.static yL_foresee, Cond.codeWith yL_foresee cL_foresee 5 (some .int) [(0, 10, 13, 13), (0, 10, 17, 21)], Cond.methodLink RL 70 yX2_foresee, Cond.instanceMethod yX2_foresee, Cond.selects RX2 yX2_foresee yX2_foresee, Cond.code yX2_foresee cX2_foresee 3 (some .int), Cond.methodLink RL 143 yX3_foresee, Cond.instanceMethod yX3_foresee, Cond.selects RX3 yX3_foresee yX3_foresee, Cond.code yX3_foresee cX3_foresee 6 (some .int), Cond.methodLink RL 144 yX2_mean]
def wsL_law0_r27 : List Cond := [Cond.instanceMethod yX2_mean, Cond.selects RX2 yX2_mean yX2_mean, Cond.code yX2_mean cX2_mean 1 (some .double), Cond.methodLink RL 148 yX3_mean, Cond.instanceMethod yX3_mean, Cond.selects RX3 yX3_mean yX3_mean, Cond.code yX3_mean cX3_mean 1 (some .double), Cond.methodLink RL 149 yX2_digest, Cond.instanceMethod yX2_digest, Cond.selects RX2 yX2_digest yX2_digest, Cond.code yX2_digest cX2_digest 4 (some .long), Cond.constantLong RX2 206 (941), Cond.constantLong RX2 208 (31), Cond.methodLink RX2 210 yX2_count, Cond.methodLink RX2 213 yX2_digestStreets, Cond.instanceMethod yX2_digestStreets, Cond.selects RX2 yX2_digestStreets yX2_digestStreets, Cond.code yX2_digestStreets cX2_digestStreets 6 (some .long), Cond.fieldLink RX2 236 "LampHills$Town" "height" "[I", Cond.fieldLink RX2 239 "LampHills$Town" "firstEnd" "[I", Cond.fieldLink RX2 242 "LampHills$Town" "secondEnd" "[I", Cond.fieldLink RX2 245 "LampHills$Town" "length" "[I", Cond.methodLink RX2 248 yX2_burning, Cond.methodLink RX2 217 yX2_digestLamps]
def wsL_law0_r28 : List Cond := [Cond.instanceMethod yX2_digestLamps, Cond.selects RX2 yX2_digestLamps yX2_digestLamps, Cond.code yX2_digestLamps cX2_digestLamps 7 (some .long), Cond.methodLink RX2 251 yX2_told, Cond.methodLink RX2 220 yX2_digestLighters, Cond.instanceMethod yX2_digestLighters, Cond.selects RX2 yX2_digestLighters yX2_digestLighters, Cond.code yX2_digestLighters cX2_digestLighters 7 (some .long), Cond.fieldLink RX2 257 "LampHills$Town" "rounds" "[[I", Cond.methodLink RX2 254 yX2_lighter, Cond.methodLink RL 153 yX3_digest, Cond.instanceMethod yX3_digest, Cond.selects RX3 yX3_digest yX3_digest, Cond.code yX3_digest cX3_digest 7 (some .long), Cond.constantLong RX3 169 (941), Cond.constantLong RX3 171 (31)]
def wsL_law0 : List Cond := (wsL_law0_r1 ++ (wsL_law0_r2 ++ (wsL_law0_r3 ++ (wsL_law0_r4 ++ (wsL_law0_r5 ++ (wsL_law0_r6 ++ (wsL_law0_r7 ++ (wsL_law0_r8 ++ (wsL_law0_r9 ++ (wsL_law0_r10 ++ (wsL_law0_r11 ++ (wsL_law0_r12 ++ (wsL_law0_r13 ++ (wsL_law0_r14 ++ (wsL_law0_r15 ++ (wsL_law0_r16 ++ (wsL_law0_r17 ++ (wsL_law0_r18 ++ (wsL_law0_r19 ++ (wsL_law0_r20 ++ (wsL_law0_r21 ++ (wsL_law0_r22 ++ (wsL_law0_r23 ++ (wsL_law0_r24 ++ (wsL_law0_r25 ++ (wsL_law0_r26 ++ (wsL_law0_r27 ++ wsL_law0_r28))))))))))))))))))))))))))) ++ wsX20 ++ wsX30 ++ wsX10 ++ wsX00 ++ ([] : List Cond)
def wsL_law : List Cond := wsL_law0 ++ (vx_atS RX2 53 "java/lang/IllegalArgumentException" ["java/lang/RuntimeException", "java/lang/Exception"]).filter goodWord ++ (vx_atS RX2 97 "java/lang/IllegalStateException" ["java/lang/RuntimeException", "java/lang/Exception"]).filter goodWord ++ (vx_atS RX2 227 "java/lang/IndexOutOfBoundsException" ["java/lang/RuntimeException", "java/lang/Exception"]).filter goodWord
set_option maxRecDepth 20000 in
theorem wsL_law_in0 : ∀ w ∈ wsL_law0, w ∈ lw_tbl := fun w h => (goodIn_p wsL_law0 [64, 67, 72, 159, 660, 460, 463, 482, 502, 709, 712, 716, 720, 316, 293, 724, 705, 510, 349, 515, 519, 523, 730, 734, 531, 535, 739, 743, 542, 747, 751, 755, 759, 549, 763, 556, 560, 564, 290, 767, 571, 575, 580, 771, 775, 779, 783, 587, 787, 595, 791, 795, 442, 272, 799, 803, 807, 451, 811, 815, 434, 819, 823, 346, 421, 425, 324, 336, 827, 831, 835, 839, 619, 256, 260, 264, 268, 276, 280, 286, 297, 301, 305, 309, 313, 843, 847, 851, 855, 859, 863, 867, 871, 875, 626, 631, 879, 639, 249, 883, 887, 898, 241, 245, 320, 328, 902, 646, 906, 655, 910, 332, 914, 340, 430, 438, 447, 918] (by decide +kernel) (by decide +kernel) w h).1
theorem wsL_law_x0 : ∀ w ∈ (vx_atS RX2 53 "java/lang/IllegalArgumentException" ["java/lang/RuntimeException", "java/lang/Exception"]).filter goodWord, w ∈ lw_tbl := by decide +kernel
theorem wsL_law_x1 : ∀ w ∈ (vx_atS RX2 97 "java/lang/IllegalStateException" ["java/lang/RuntimeException", "java/lang/Exception"]).filter goodWord, w ∈ lw_tbl := by decide +kernel
theorem wsL_law_x2 : ∀ w ∈ (vx_atS RX2 227 "java/lang/IndexOutOfBoundsException" ["java/lang/RuntimeException", "java/lang/Exception"]).filter goodWord, w ∈ lw_tbl := by decide +kernel
theorem wsL_law_in : ∀ w ∈ wsL_law, w ∈ lw_tbl := fun w h => (List.mem_append.mp h).elim (fun h => (List.mem_append.mp h).elim (fun h => (List.mem_append.mp h).elim (fun h => wsL_law_in0 w h) (fun h => wsL_law_x0 w h)) (fun h => wsL_law_x1 w h)) (fun h => wsL_law_x2 w h)
theorem inlX0 : ∀ w ∈ wsX00, w ∈ wsL_law := fun _ h => List.mem_append_left _ (List.mem_append_left _ (List.mem_append_left _ (List.mem_append_left _ (List.mem_append_right _ h))))
theorem inX0 : ∀ w ∈ wsX00, w ∈ lw_tbl := fun w h => wsL_law_in w (inlX0 w h)
theorem inlX1 : ∀ w ∈ wsX10, w ∈ wsL_law := fun _ h => List.mem_append_left _ (List.mem_append_left _ (List.mem_append_left _ (List.mem_append_left _ (List.mem_append_left _ (List.mem_append_right _ h)))))
theorem inX1 : ∀ w ∈ wsX10, w ∈ lw_tbl := fun w h => wsL_law_in w (inlX1 w h)
theorem inlX2 : ∀ w ∈ wsX20, w ∈ wsL_law := fun _ h => List.mem_append_left _ (List.mem_append_left _ (List.mem_append_left _ (List.mem_append_left _ (List.mem_append_left _ (List.mem_append_left _ (List.mem_append_left _ (List.mem_append_right _ h)))))))
theorem inX2 : ∀ w ∈ wsX20, w ∈ lw_tbl := fun w h => wsL_law_in w (inlX2 w h)
theorem inlX3 : ∀ w ∈ wsX30, w ∈ wsL_law := fun _ h => List.mem_append_left _ (List.mem_append_left _ (List.mem_append_left _ (List.mem_append_left _ (List.mem_append_left _ (List.mem_append_left _ (List.mem_append_right _ h))))))
theorem inX3 : ∀ w ∈ wsX30, w ∈ lw_tbl := fun w h => wsL_law_in w (inlX3 w h)
theorem inJx8e188 : ∀ w ∈ wsJx8e1880, w ∈ lw_tbl := by decide +kernel
theorem inJ9 : ∀ w ∈ wsJ90, w ∈ lw_tbl := by decide +kernel
theorem inJ0 : ∀ w ∈ wsJ00, w ∈ lw_tbl := by decide +kernel
theorem inJ10 : ∀ w ∈ wsJ100, w ∈ lw_tbl := by decide +kernel
theorem dX0_init_0 : decode cX0_init 0 = .ok (.aload_n 0, 1) := by decide +kernel
theorem dX0_init_1 : decode cX0_init 1 = .ok (.invokespecial 3, 3) := by decide +kernel
theorem dX0_init_4 : decode cX0_init 4 = .ok (.aload_n 0, 1) := by decide +kernel
theorem dX0_init_5 : decode cX0_init 5 = .ok (.bipush 18, 2) := by decide +kernel
theorem dX0_init_7 : decode cX0_init 7 = .ok (.newarray .int, 2) := by decide +kernel
theorem dX0_init_9 : decode cX0_init 9 = .ok (.putfield 9, 3) := by decide +kernel
theorem dX0_init_12 : decode cX0_init 12 = .ok (.aload_n 0, 1) := by decide +kernel
theorem dX0_init_13 : decode cX0_init 13 = .ok (.bipush 20, 2) := by decide +kernel
theorem dX0_init_15 : decode cX0_init 15 = .ok (.newarray .int, 2) := by decide +kernel
theorem dX0_init_17 : decode cX0_init 17 = .ok (.putfield 15, 3) := by decide +kernel
theorem dX0_init_20 : decode cX0_init 20 = .ok (.aload_n 0, 1) := by decide +kernel
theorem dX0_init_21 : decode cX0_init 21 = .ok (.bipush 20, 2) := by decide +kernel
theorem dX0_init_23 : decode cX0_init 23 = .ok (.newarray .int, 2) := by decide +kernel
theorem dX0_init_25 : decode cX0_init 25 = .ok (.putfield 18, 3) := by decide +kernel
theorem dX0_init_28 : decode cX0_init 28 = .ok (.aload_n 0, 1) := by decide +kernel
theorem dX0_init_29 : decode cX0_init 29 = .ok (.bipush 20, 2) := by decide +kernel
theorem dX0_init_31 : decode cX0_init 31 = .ok (.newarray .boolean, 2) := by decide +kernel
theorem dX0_init_33 : decode cX0_init 33 = .ok (.putfield 21, 3) := by decide +kernel
theorem dX0_init_36 : decode cX0_init 36 = .ok (.aload_n 0, 1) := by decide +kernel
theorem dX0_init_37 : decode cX0_init 37 = .ok (.bipush 20, 2) := by decide +kernel
theorem dX0_init_39 : decode cX0_init 39 = .ok (.newarray .int, 2) := by decide +kernel
theorem dX0_init_41 : decode cX0_init 41 = .ok (.putfield 25, 3) := by decide +kernel
theorem dX0_init_44 : decode cX0_init 44 = .ok (.aload_n 0, 1) := by decide +kernel
theorem dX0_init_45 : decode cX0_init 45 = .ok (.bipush 20, 2) := by decide +kernel
theorem dX0_init_47 : decode cX0_init 47 = .ok (.newarray .int, 2) := by decide +kernel
theorem dX0_init_49 : decode cX0_init 49 = .ok (.putfield 28, 3) := by decide +kernel
theorem dX0_init_52 : decode cX0_init 52 = .ok (.aload_n 0, 1) := by decide +kernel
theorem dX0_init_53 : decode cX0_init 53 = .ok (.iconst 4, 1) := by decide +kernel
theorem dX0_init_54 : decode cX0_init 54 = .ok (.newarray .int, 2) := by decide +kernel
theorem dX0_init_56 : decode cX0_init 56 = .ok (.putfield 31, 3) := by decide +kernel
theorem dX0_init_59 : decode cX0_init 59 = .ok (.aload_n 0, 1) := by decide +kernel
theorem dX0_init_60 : decode cX0_init 60 = .ok (.iconst 4, 1) := by decide +kernel
theorem dX0_init_61 : decode cX0_init 61 = .ok (.newarray .int, 2) := by decide +kernel
theorem dX0_init_63 : decode cX0_init 63 = .ok (.putfield 34, 3) := by decide +kernel
theorem dX0_init_66 : decode cX0_init 66 = .ok (.aload_n 0, 1) := by decide +kernel
theorem dX0_init_67 : decode cX0_init 67 = .ok (.iconst 4, 1) := by decide +kernel
theorem dX0_init_68 : decode cX0_init 68 = .ok (.newarray .int, 2) := by decide +kernel
theorem dX0_init_70 : decode cX0_init 70 = .ok (.putfield 37, 3) := by decide +kernel
theorem dX0_init_73 : decode cX0_init 73 = .ok (.aload_n 0, 1) := by decide +kernel
theorem dX0_init_74 : decode cX0_init 74 = .ok (.iconst 4, 1) := by decide +kernel
theorem dX0_init_75 : decode cX0_init 75 = .ok (.newarray .int, 2) := by decide +kernel
theorem dX0_init_77 : decode cX0_init 77 = .ok (.putfield 40, 3) := by decide +kernel
theorem dX0_init_80 : decode cX0_init 80 = .ok (.aload_n 0, 1) := by decide +kernel
theorem dX0_init_81 : decode cX0_init 81 = .ok (.iconst 4, 1) := by decide +kernel
theorem dX0_init_82 : decode cX0_init 82 = .ok (.newarray .int, 2) := by decide +kernel
theorem dX0_init_84 : decode cX0_init 84 = .ok (.putfield 43, 3) := by decide +kernel
theorem dX0_init_87 : decode cX0_init 87 = .ok (.aload_n 0, 1) := by decide +kernel
theorem dX0_init_88 : decode cX0_init 88 = .ok (.iconst 4, 1) := by decide +kernel
theorem dX0_init_89 : decode cX0_init 89 = .ok (.newarray .int, 2) := by decide +kernel
theorem dX0_init_91 : decode cX0_init 91 = .ok (.putfield 46, 3) := by decide +kernel
theorem dX0_init_94 : decode cX0_init 94 = .ok (.aload_n 0, 1) := by decide +kernel
theorem dX0_init_95 : decode cX0_init 95 = .ok (.iconst 4, 1) := by decide +kernel
theorem dX0_init_96 : decode cX0_init 96 = .ok (.newarray .int, 2) := by decide +kernel
theorem dX0_init_98 : decode cX0_init 98 = .ok (.putfield 49, 3) := by decide +kernel
theorem dX0_init_101 : decode cX0_init 101 = .ok (.return_, 1) := by decide +kernel
theorem dX0_copy_0 : decode cX0_copy 0 = .ok (.aload_n 0, 1) := by decide +kernel
theorem dX0_copy_1 : decode cX0_copy 1 = .ok (.aload_n 1, 1) := by decide +kernel
theorem dX0_copy_2 : decode cX0_copy 2 = .ok (.getfield 52, 3) := by decide +kernel
theorem dX0_copy_5 : decode cX0_copy 5 = .ok (.putfield 52, 3) := by decide +kernel
theorem dX0_copy_8 : decode cX0_copy 8 = .ok (.aload_n 0, 1) := by decide +kernel
theorem dX0_copy_9 : decode cX0_copy 9 = .ok (.aload_n 1, 1) := by decide +kernel
theorem dX0_copy_10 : decode cX0_copy 10 = .ok (.getfield 56, 3) := by decide +kernel
theorem dX0_copy_13 : decode cX0_copy 13 = .ok (.putfield 56, 3) := by decide +kernel
theorem dX0_copy_16 : decode cX0_copy 16 = .ok (.aload_n 0, 1) := by decide +kernel
theorem dX0_copy_17 : decode cX0_copy 17 = .ok (.aload_n 1, 1) := by decide +kernel
theorem dX0_copy_18 : decode cX0_copy 18 = .ok (.getfield 59, 3) := by decide +kernel
theorem dX0_copy_21 : decode cX0_copy 21 = .ok (.putfield 59, 3) := by decide +kernel
theorem dX0_copy_24 : decode cX0_copy 24 = .ok (.aload_n 1, 1) := by decide +kernel
theorem dX0_copy_25 : decode cX0_copy 25 = .ok (.getfield 9, 3) := by decide +kernel
theorem dX0_copy_28 : decode cX0_copy 28 = .ok (.iconst 0, 1) := by decide +kernel
theorem dX0_copy_29 : decode cX0_copy 29 = .ok (.aload_n 0, 1) := by decide +kernel
theorem dX0_copy_30 : decode cX0_copy 30 = .ok (.getfield 9, 3) := by decide +kernel
theorem dX0_copy_33 : decode cX0_copy 33 = .ok (.iconst 0, 1) := by decide +kernel
theorem dX0_copy_34 : decode cX0_copy 34 = .ok (.bipush 18, 2) := by decide +kernel
theorem dX0_copy_36 : decode cX0_copy 36 = .ok (.invokestatic 62, 3) := by decide +kernel
theorem dX0_copy_39 : decode cX0_copy 39 = .ok (.iconst 0, 1) := by decide +kernel
theorem dX0_copy_40 : decode cX0_copy 40 = .ok (.istore_n 2, 1) := by decide +kernel
theorem dX0_copy_41 : decode cX0_copy 41 = .ok (.iload_n 2, 1) := by decide +kernel
theorem dX0_copy_42 : decode cX0_copy 42 = .ok (.bipush 20, 2) := by decide +kernel
theorem dX0_copy_44 : decode cX0_copy 44 = .ok (.if_icmp .ge 69, 3) := by decide +kernel
theorem dX0_copy_47 : decode cX0_copy 47 = .ok (.aload_n 0, 1) := by decide +kernel
theorem dX0_copy_48 : decode cX0_copy 48 = .ok (.getfield 15, 3) := by decide +kernel
theorem dX0_copy_51 : decode cX0_copy 51 = .ok (.iload_n 2, 1) := by decide +kernel
theorem dX0_copy_52 : decode cX0_copy 52 = .ok (.aload_n 1, 1) := by decide +kernel
theorem dX0_copy_53 : decode cX0_copy 53 = .ok (.getfield 15, 3) := by decide +kernel
theorem dX0_copy_56 : decode cX0_copy 56 = .ok (.iload_n 2, 1) := by decide +kernel
theorem dX0_copy_57 : decode cX0_copy 57 = .ok (.iaload, 1) := by decide +kernel
theorem dX0_copy_58 : decode cX0_copy 58 = .ok (.iastore, 1) := by decide +kernel
theorem dX0_copy_59 : decode cX0_copy 59 = .ok (.aload_n 0, 1) := by decide +kernel
theorem dX0_copy_60 : decode cX0_copy 60 = .ok (.getfield 18, 3) := by decide +kernel
theorem dX0_copy_63 : decode cX0_copy 63 = .ok (.iload_n 2, 1) := by decide +kernel
theorem dX0_copy_64 : decode cX0_copy 64 = .ok (.aload_n 1, 1) := by decide +kernel
theorem dX0_copy_65 : decode cX0_copy 65 = .ok (.getfield 18, 3) := by decide +kernel
theorem dX0_copy_68 : decode cX0_copy 68 = .ok (.iload_n 2, 1) := by decide +kernel
theorem dX0_copy_69 : decode cX0_copy 69 = .ok (.iaload, 1) := by decide +kernel
theorem dX0_copy_70 : decode cX0_copy 70 = .ok (.iastore, 1) := by decide +kernel
theorem dX0_copy_71 : decode cX0_copy 71 = .ok (.aload_n 0, 1) := by decide +kernel
theorem dX0_copy_72 : decode cX0_copy 72 = .ok (.getfield 21, 3) := by decide +kernel
theorem dX0_copy_75 : decode cX0_copy 75 = .ok (.iload_n 2, 1) := by decide +kernel
theorem dX0_copy_76 : decode cX0_copy 76 = .ok (.aload_n 1, 1) := by decide +kernel
theorem dX0_copy_77 : decode cX0_copy 77 = .ok (.getfield 21, 3) := by decide +kernel
theorem dX0_copy_80 : decode cX0_copy 80 = .ok (.iload_n 2, 1) := by decide +kernel
theorem dX0_copy_81 : decode cX0_copy 81 = .ok (.baload, 1) := by decide +kernel
theorem dX0_copy_82 : decode cX0_copy 82 = .ok (.bastore, 1) := by decide +kernel
theorem dX0_copy_83 : decode cX0_copy 83 = .ok (.aload_n 0, 1) := by decide +kernel
theorem dX0_copy_84 : decode cX0_copy 84 = .ok (.getfield 25, 3) := by decide +kernel
theorem dX0_copy_87 : decode cX0_copy 87 = .ok (.iload_n 2, 1) := by decide +kernel
theorem dX0_copy_88 : decode cX0_copy 88 = .ok (.aload_n 1, 1) := by decide +kernel
theorem dX0_copy_89 : decode cX0_copy 89 = .ok (.getfield 25, 3) := by decide +kernel
theorem dX0_copy_92 : decode cX0_copy 92 = .ok (.iload_n 2, 1) := by decide +kernel
theorem dX0_copy_93 : decode cX0_copy 93 = .ok (.iaload, 1) := by decide +kernel
theorem dX0_copy_94 : decode cX0_copy 94 = .ok (.iastore, 1) := by decide +kernel
theorem dX0_copy_95 : decode cX0_copy 95 = .ok (.aload_n 0, 1) := by decide +kernel
theorem dX0_copy_96 : decode cX0_copy 96 = .ok (.getfield 28, 3) := by decide +kernel
theorem dX0_copy_99 : decode cX0_copy 99 = .ok (.iload_n 2, 1) := by decide +kernel
theorem dX0_copy_100 : decode cX0_copy 100 = .ok (.aload_n 1, 1) := by decide +kernel
theorem dX0_copy_101 : decode cX0_copy 101 = .ok (.getfield 28, 3) := by decide +kernel
theorem dX0_copy_104 : decode cX0_copy 104 = .ok (.iload_n 2, 1) := by decide +kernel
theorem dX0_copy_105 : decode cX0_copy 105 = .ok (.iaload, 1) := by decide +kernel
theorem dX0_copy_106 : decode cX0_copy 106 = .ok (.iastore, 1) := by decide +kernel
theorem dX0_copy_107 : decode cX0_copy 107 = .ok (.iinc 2 1, 3) := by decide +kernel
theorem dX0_copy_110 : decode cX0_copy 110 = .ok (.goto (-69), 3) := by decide +kernel
theorem dX0_copy_113 : decode cX0_copy 113 = .ok (.iconst 0, 1) := by decide +kernel
theorem dX0_copy_114 : decode cX0_copy 114 = .ok (.istore_n 2, 1) := by decide +kernel
theorem dX0_copy_115 : decode cX0_copy 115 = .ok (.iload_n 2, 1) := by decide +kernel
theorem dX0_copy_116 : decode cX0_copy 116 = .ok (.iconst 4, 1) := by decide +kernel
theorem dX0_copy_117 : decode cX0_copy 117 = .ok (.if_icmp .ge 93, 3) := by decide +kernel
theorem dX0_copy_120 : decode cX0_copy 120 = .ok (.aload_n 0, 1) := by decide +kernel
theorem dX0_copy_121 : decode cX0_copy 121 = .ok (.getfield 31, 3) := by decide +kernel
theorem dX0_copy_124 : decode cX0_copy 124 = .ok (.iload_n 2, 1) := by decide +kernel
theorem dX0_copy_125 : decode cX0_copy 125 = .ok (.aload_n 1, 1) := by decide +kernel
theorem dX0_copy_126 : decode cX0_copy 126 = .ok (.getfield 31, 3) := by decide +kernel
theorem dX0_copy_129 : decode cX0_copy 129 = .ok (.iload_n 2, 1) := by decide +kernel
theorem dX0_copy_130 : decode cX0_copy 130 = .ok (.iaload, 1) := by decide +kernel
theorem dX0_copy_131 : decode cX0_copy 131 = .ok (.iastore, 1) := by decide +kernel
theorem dX0_copy_132 : decode cX0_copy 132 = .ok (.aload_n 0, 1) := by decide +kernel
theorem dX0_copy_133 : decode cX0_copy 133 = .ok (.getfield 34, 3) := by decide +kernel
theorem dX0_copy_136 : decode cX0_copy 136 = .ok (.iload_n 2, 1) := by decide +kernel
theorem dX0_copy_137 : decode cX0_copy 137 = .ok (.aload_n 1, 1) := by decide +kernel
theorem dX0_copy_138 : decode cX0_copy 138 = .ok (.getfield 34, 3) := by decide +kernel
theorem dX0_copy_141 : decode cX0_copy 141 = .ok (.iload_n 2, 1) := by decide +kernel
theorem dX0_copy_142 : decode cX0_copy 142 = .ok (.iaload, 1) := by decide +kernel
theorem dX0_copy_143 : decode cX0_copy 143 = .ok (.iastore, 1) := by decide +kernel
theorem dX0_copy_144 : decode cX0_copy 144 = .ok (.aload_n 0, 1) := by decide +kernel
theorem dX0_copy_145 : decode cX0_copy 145 = .ok (.getfield 37, 3) := by decide +kernel
theorem dX0_copy_148 : decode cX0_copy 148 = .ok (.iload_n 2, 1) := by decide +kernel
theorem dX0_copy_149 : decode cX0_copy 149 = .ok (.aload_n 1, 1) := by decide +kernel
theorem dX0_copy_150 : decode cX0_copy 150 = .ok (.getfield 37, 3) := by decide +kernel
theorem dX0_copy_153 : decode cX0_copy 153 = .ok (.iload_n 2, 1) := by decide +kernel
theorem dX0_copy_154 : decode cX0_copy 154 = .ok (.iaload, 1) := by decide +kernel
theorem dX0_copy_155 : decode cX0_copy 155 = .ok (.iastore, 1) := by decide +kernel
theorem dX0_copy_156 : decode cX0_copy 156 = .ok (.aload_n 0, 1) := by decide +kernel
theorem dX0_copy_157 : decode cX0_copy 157 = .ok (.getfield 40, 3) := by decide +kernel
theorem dX0_copy_160 : decode cX0_copy 160 = .ok (.iload_n 2, 1) := by decide +kernel
theorem dX0_copy_161 : decode cX0_copy 161 = .ok (.aload_n 1, 1) := by decide +kernel
theorem dX0_copy_162 : decode cX0_copy 162 = .ok (.getfield 40, 3) := by decide +kernel
theorem dX0_copy_165 : decode cX0_copy 165 = .ok (.iload_n 2, 1) := by decide +kernel
theorem dX0_copy_166 : decode cX0_copy 166 = .ok (.iaload, 1) := by decide +kernel
theorem dX0_copy_167 : decode cX0_copy 167 = .ok (.iastore, 1) := by decide +kernel
theorem dX0_copy_168 : decode cX0_copy 168 = .ok (.aload_n 0, 1) := by decide +kernel
theorem dX0_copy_169 : decode cX0_copy 169 = .ok (.getfield 43, 3) := by decide +kernel
theorem dX0_copy_172 : decode cX0_copy 172 = .ok (.iload_n 2, 1) := by decide +kernel
theorem dX0_copy_173 : decode cX0_copy 173 = .ok (.aload_n 1, 1) := by decide +kernel
theorem dX0_copy_174 : decode cX0_copy 174 = .ok (.getfield 43, 3) := by decide +kernel
theorem dX0_copy_177 : decode cX0_copy 177 = .ok (.iload_n 2, 1) := by decide +kernel
theorem dX0_copy_178 : decode cX0_copy 178 = .ok (.iaload, 1) := by decide +kernel
theorem dX0_copy_179 : decode cX0_copy 179 = .ok (.iastore, 1) := by decide +kernel
theorem dX0_copy_180 : decode cX0_copy 180 = .ok (.aload_n 0, 1) := by decide +kernel
theorem dX0_copy_181 : decode cX0_copy 181 = .ok (.getfield 46, 3) := by decide +kernel
theorem dX0_copy_184 : decode cX0_copy 184 = .ok (.iload_n 2, 1) := by decide +kernel
theorem dX0_copy_185 : decode cX0_copy 185 = .ok (.aload_n 1, 1) := by decide +kernel
theorem dX0_copy_186 : decode cX0_copy 186 = .ok (.getfield 46, 3) := by decide +kernel
theorem dX0_copy_189 : decode cX0_copy 189 = .ok (.iload_n 2, 1) := by decide +kernel
theorem dX0_copy_190 : decode cX0_copy 190 = .ok (.iaload, 1) := by decide +kernel
theorem dX0_copy_191 : decode cX0_copy 191 = .ok (.iastore, 1) := by decide +kernel
theorem dX0_copy_192 : decode cX0_copy 192 = .ok (.aload_n 0, 1) := by decide +kernel
theorem dX0_copy_193 : decode cX0_copy 193 = .ok (.getfield 49, 3) := by decide +kernel
theorem dX0_copy_196 : decode cX0_copy 196 = .ok (.iload_n 2, 1) := by decide +kernel
theorem dX0_copy_197 : decode cX0_copy 197 = .ok (.aload_n 1, 1) := by decide +kernel
theorem dX0_copy_198 : decode cX0_copy 198 = .ok (.getfield 49, 3) := by decide +kernel
theorem dX0_copy_201 : decode cX0_copy 201 = .ok (.iload_n 2, 1) := by decide +kernel
theorem dX0_copy_202 : decode cX0_copy 202 = .ok (.iaload, 1) := by decide +kernel
theorem dX0_copy_203 : decode cX0_copy 203 = .ok (.iastore, 1) := by decide +kernel
theorem dX0_copy_204 : decode cX0_copy 204 = .ok (.iinc 2 1, 3) := by decide +kernel
theorem dX0_copy_207 : decode cX0_copy 207 = .ok (.goto (-92), 3) := by decide +kernel
theorem dX0_copy_210 : decode cX0_copy 210 = .ok (.return_, 1) := by decide +kernel
set_option maxRecDepth 20000 in
theorem ggX0_goBy_X0_moveLighters : GoodIn wsX0_goBy wsX0_moveLighters := goodIn_r _ [7, 8, 9, 10, 11, 12, 13, 6, 14, 15, 16, 17, 18, 19, 20, 21, 22, 23, 24, 25, 26, 27, 28, 29, 30, 31, 32, 33, 34, 35, 36, 37, 38, 39, 40, 41, 42, 43, 44, 45, 46, 47, 48, 49, 50, 51, 52, 53, 54, 55, 56, 57, 58, 59, 60, 61, 62, 63, 64, 65, 110, 111, 112, 113, 114, 115, 116, 117, 118, 119, 120, 121, 122, 123, 124, 125, 126, 94, 95, 96, 97, 98, 99, 100, 101, 102, 103, 104, 105, 106, 107, 108, 109] (by decide +kernel) (by decide +kernel)
set_option maxRecDepth 20000 in
theorem gX0_goBy_X0_moveLighters : GoodIn wsX0_goBy (wsV RX0 68 RX0 yX0_moveLighters wsX0_moveLighters) := goodIn_app (goodIn_of _ (by decide +kernel)) ggX0_goBy_X0_moveLighters
set_option maxRecDepth 20000 in
theorem ggX0_goBy_X0_burnLamps : GoodIn wsX0_goBy wsX0_burnLamps := goodIn_r _ [69, 70, 27, 1, 57, 53, 54, 55, 56, 71, 72, 73, 6, 74, 17, 75, 76, 77, 78, 79, 58, 59, 110, 111, 112, 113, 114, 115, 116, 117, 118, 119, 120, 121, 122, 123, 124, 125, 126, 94, 95, 96, 97, 98, 99, 100, 101, 102, 103, 104, 105, 106, 107, 108, 109] (by decide +kernel) (by decide +kernel)
set_option maxRecDepth 20000 in
theorem gX0_goBy_X0_burnLamps : GoodIn wsX0_goBy (wsV RX0 72 RX0 yX0_burnLamps wsX0_burnLamps) := goodIn_app (goodIn_of _ (by decide +kernel)) ggX0_goBy_X0_burnLamps
set_option maxRecDepth 20000 in
theorem ggX0_goBy_X0_blow : GoodIn wsX0_goBy wsX0_blow := goodIn_r _ [83, 70, 27, 84, 85, 86, 87, 88, 35, 89, 45, 90, 46, 47, 91, 92, 55, 93, 76, 77, 78, 6, 79, 58, 59, 110, 111, 112, 113, 114, 115, 116, 117, 118, 119, 120, 121, 122, 123, 124, 125, 126, 94, 95, 96, 97, 98, 99, 100, 101, 102, 103, 104, 105, 106, 107, 108, 109] (by decide +kernel) (by decide +kernel)
set_option maxRecDepth 20000 in
theorem gX0_goBy_X0_blow : GoodIn wsX0_goBy (wsV RX0 81 RX0 yX0_blow wsX0_blow) := goodIn_app (goodIn_of _ (by decide +kernel)) ggX0_goBy_X0_blow
theorem dX0_goBy_0 : decode cX0_goBy 0 = .ok (.iconst 0, 1) := by decide +kernel
theorem dX0_goBy_1 : decode cX0_goBy 1 = .ok (.istore_n 3, 1) := by decide +kernel
theorem dX0_goBy_2 : decode cX0_goBy 2 = .ok (.iconst 0, 1) := by decide +kernel
theorem dX0_goBy_3 : decode cX0_goBy 3 = .ok (.istore 4, 2) := by decide +kernel
theorem dX0_goBy_5 : decode cX0_goBy 5 = .ok (.iload 4, 2) := by decide +kernel
theorem dX0_goBy_7 : decode cX0_goBy 7 = .ok (.iload_n 2, 1) := by decide +kernel
theorem dX0_goBy_8 : decode cX0_goBy 8 = .ok (.if_icmp .ge 69, 3) := by decide +kernel
theorem dX0_goBy_11 : decode cX0_goBy 11 = .ok (.aload_n 0, 1) := by decide +kernel
theorem dX0_goBy_12 : decode cX0_goBy 12 = .ok (.getfield 52, 3) := by decide +kernel
theorem dX0_goBy_15 : decode cX0_goBy 15 = .ok (.sipush 600, 3) := by decide +kernel
theorem dX0_goBy_18 : decode cX0_goBy 18 = .ok (.if_icmp .ge 59, 3) := by decide +kernel
theorem dX0_goBy_21 : decode cX0_goBy 21 = .ok (.iload_n 3, 1) := by decide +kernel
theorem dX0_goBy_22 : decode cX0_goBy 22 = .ok (.aload_n 0, 1) := by decide +kernel
theorem dX0_goBy_23 : decode cX0_goBy 23 = .ok (.aload_n 1, 1) := by decide +kernel
theorem dX0_goBy_24 : decode cX0_goBy 24 = .ok (.invokevirtual 68, 3) := by decide +kernel
theorem dX0_goBy_27 : decode cX0_goBy 27 = .ok (.iadd, 1) := by decide +kernel
theorem dX0_goBy_28 : decode cX0_goBy 28 = .ok (.istore_n 3, 1) := by decide +kernel
theorem dX0_goBy_29 : decode cX0_goBy 29 = .ok (.aload_n 0, 1) := by decide +kernel
theorem dX0_goBy_30 : decode cX0_goBy 30 = .ok (.aload_n 1, 1) := by decide +kernel
theorem dX0_goBy_31 : decode cX0_goBy 31 = .ok (.invokevirtual 72, 3) := by decide +kernel
theorem dX0_goBy_34 : decode cX0_goBy 34 = .ok (.aload_n 0, 1) := by decide +kernel
theorem dX0_goBy_35 : decode cX0_goBy 35 = .ok (.getfield 52, 3) := by decide +kernel
theorem dX0_goBy_38 : decode cX0_goBy 38 = .ok (.bipush 10, 2) := by decide +kernel
theorem dX0_goBy_40 : decode cX0_goBy 40 = .ok (.irem, 1) := by decide +kernel
theorem dX0_goBy_41 : decode cX0_goBy 41 = .ok (.ifCond .ne 20, 3) := by decide +kernel
theorem dX0_goBy_44 : decode cX0_goBy 44 = .ok (.aload_n 0, 1) := by decide +kernel
theorem dX0_goBy_45 : decode cX0_goBy 45 = .ok (.aload_n 1, 1) := by decide +kernel
theorem dX0_goBy_46 : decode cX0_goBy 46 = .ok (.aload_n 1, 1) := by decide +kernel
theorem dX0_goBy_47 : decode cX0_goBy 47 = .ok (.getfield 76, 3) := by decide +kernel
theorem dX0_goBy_50 : decode cX0_goBy 50 = .ok (.aload_n 0, 1) := by decide +kernel
theorem dX0_goBy_51 : decode cX0_goBy 51 = .ok (.getfield 52, 3) := by decide +kernel
theorem dX0_goBy_54 : decode cX0_goBy 54 = .ok (.bipush 60, 2) := by decide +kernel
theorem dX0_goBy_56 : decode cX0_goBy 56 = .ok (.idiv, 1) := by decide +kernel
theorem dX0_goBy_57 : decode cX0_goBy 57 = .ok (.iaload, 1) := by decide +kernel
theorem dX0_goBy_58 : decode cX0_goBy 58 = .ok (.invokevirtual 81, 3) := by decide +kernel
theorem dX0_goBy_61 : decode cX0_goBy 61 = .ok (.aload_n 0, 1) := by decide +kernel
theorem dX0_goBy_62 : decode cX0_goBy 62 = .ok (.dup, 1) := by decide +kernel
theorem dX0_goBy_63 : decode cX0_goBy 63 = .ok (.getfield 52, 3) := by decide +kernel
theorem dX0_goBy_66 : decode cX0_goBy 66 = .ok (.iconst 1, 1) := by decide +kernel
theorem dX0_goBy_67 : decode cX0_goBy 67 = .ok (.iadd, 1) := by decide +kernel
theorem dX0_goBy_68 : decode cX0_goBy 68 = .ok (.putfield 52, 3) := by decide +kernel
theorem dX0_goBy_71 : decode cX0_goBy 71 = .ok (.iinc 4 1, 3) := by decide +kernel
theorem dX0_goBy_74 : decode cX0_goBy 74 = .ok (.goto (-69), 3) := by decide +kernel
theorem dX0_goBy_77 : decode cX0_goBy 77 = .ok (.iload_n 3, 1) := by decide +kernel
theorem dX0_goBy_78 : decode cX0_goBy 78 = .ok (.ireturn, 1) := by decide +kernel
set_option maxRecDepth 20000 in
theorem ggX0_beginNext_X0_putOut : GoodIn wsX0_beginNext wsX0_putOut := goodIn_r _ [10, 4, 11, 12, 26, 27, 28, 29, 30, 31, 32, 33, 34, 35, 36, 37, 38, 39, 40, 41, 42, 43, 44, 45, 46, 47, 48, 49, 50, 51, 52, 53, 54, 55, 56, 57, 58] (by decide +kernel) (by decide +kernel)
set_option maxRecDepth 20000 in
theorem gX0_beginNext_X0_putOut : GoodIn wsX0_beginNext (wsV RX0 88 RX0 yX0_putOut wsX0_putOut) := goodIn_app (goodIn_of _ (by decide +kernel)) ggX0_beginNext_X0_putOut
set_option maxRecDepth 20000 in
theorem ggX0_beginNext_X0_sendHome : GoodIn wsX0_beginNext wsX0_sendHome := goodIn_r _ [16, 17, 18, 19, 20, 21, 22, 9, 23, 24, 25, 26, 27, 28, 29, 30, 31, 32, 33, 34, 35, 36, 37, 38, 39, 40, 41, 42, 43, 44, 45, 46, 47, 48, 49, 50, 51, 52, 53, 54, 55, 56, 57, 58] (by decide +kernel) (by decide +kernel)
set_option maxRecDepth 20000 in
theorem gX0_beginNext_X0_sendHome : GoodIn wsX0_beginNext (wsV RX0 94 RX0 yX0_sendHome wsX0_sendHome) := goodIn_app (goodIn_of _ (by decide +kernel)) ggX0_beginNext_X0_sendHome
theorem dX0_beginNext_0 : decode cX0_beginNext 0 = .ok (.aload_n 0, 1) := by decide +kernel
theorem dX0_beginNext_1 : decode cX0_beginNext 1 = .ok (.iconst 0, 1) := by decide +kernel
theorem dX0_beginNext_2 : decode cX0_beginNext 2 = .ok (.putfield 52, 3) := by decide +kernel
theorem dX0_beginNext_5 : decode cX0_beginNext 5 = .ok (.aload_n 0, 1) := by decide +kernel
theorem dX0_beginNext_6 : decode cX0_beginNext 6 = .ok (.dup, 1) := by decide +kernel
theorem dX0_beginNext_7 : decode cX0_beginNext 7 = .ok (.getfield 56, 3) := by decide +kernel
theorem dX0_beginNext_10 : decode cX0_beginNext 10 = .ok (.iconst 1, 1) := by decide +kernel
theorem dX0_beginNext_11 : decode cX0_beginNext 11 = .ok (.iadd, 1) := by decide +kernel
theorem dX0_beginNext_12 : decode cX0_beginNext 12 = .ok (.putfield 56, 3) := by decide +kernel
theorem dX0_beginNext_15 : decode cX0_beginNext 15 = .ok (.iconst 0, 1) := by decide +kernel
theorem dX0_beginNext_16 : decode cX0_beginNext 16 = .ok (.istore_n 2, 1) := by decide +kernel
theorem dX0_beginNext_17 : decode cX0_beginNext 17 = .ok (.iload_n 2, 1) := by decide +kernel
theorem dX0_beginNext_18 : decode cX0_beginNext 18 = .ok (.aload_n 1, 1) := by decide +kernel
theorem dX0_beginNext_19 : decode cX0_beginNext 19 = .ok (.getfield 85, 3) := by decide +kernel
theorem dX0_beginNext_22 : decode cX0_beginNext 22 = .ok (.if_icmp .ge 24, 3) := by decide +kernel
theorem dX0_beginNext_25 : decode cX0_beginNext 25 = .ok (.aload_n 0, 1) := by decide +kernel
theorem dX0_beginNext_26 : decode cX0_beginNext 26 = .ok (.getfield 21, 3) := by decide +kernel
theorem dX0_beginNext_29 : decode cX0_beginNext 29 = .ok (.iload_n 2, 1) := by decide +kernel
theorem dX0_beginNext_30 : decode cX0_beginNext 30 = .ok (.baload, 1) := by decide +kernel
theorem dX0_beginNext_31 : decode cX0_beginNext 31 = .ok (.ifCond .eq 9, 3) := by decide +kernel
theorem dX0_beginNext_34 : decode cX0_beginNext 34 = .ok (.aload_n 0, 1) := by decide +kernel
theorem dX0_beginNext_35 : decode cX0_beginNext 35 = .ok (.aload_n 1, 1) := by decide +kernel
theorem dX0_beginNext_36 : decode cX0_beginNext 36 = .ok (.iload_n 2, 1) := by decide +kernel
theorem dX0_beginNext_37 : decode cX0_beginNext 37 = .ok (.invokevirtual 88, 3) := by decide +kernel
theorem dX0_beginNext_40 : decode cX0_beginNext 40 = .ok (.iinc 2 1, 3) := by decide +kernel
theorem dX0_beginNext_43 : decode cX0_beginNext 43 = .ok (.goto (-26), 3) := by decide +kernel
theorem dX0_beginNext_46 : decode cX0_beginNext 46 = .ok (.iconst 0, 1) := by decide +kernel
theorem dX0_beginNext_47 : decode cX0_beginNext 47 = .ok (.istore_n 2, 1) := by decide +kernel
theorem dX0_beginNext_48 : decode cX0_beginNext 48 = .ok (.iload_n 2, 1) := by decide +kernel
theorem dX0_beginNext_49 : decode cX0_beginNext 49 = .ok (.aload_n 1, 1) := by decide +kernel
theorem dX0_beginNext_50 : decode cX0_beginNext 50 = .ok (.getfield 91, 3) := by decide +kernel
theorem dX0_beginNext_53 : decode cX0_beginNext 53 = .ok (.if_icmp .ge 15, 3) := by decide +kernel
theorem dX0_beginNext_56 : decode cX0_beginNext 56 = .ok (.aload_n 0, 1) := by decide +kernel
theorem dX0_beginNext_57 : decode cX0_beginNext 57 = .ok (.aload_n 1, 1) := by decide +kernel
theorem dX0_beginNext_58 : decode cX0_beginNext 58 = .ok (.iload_n 2, 1) := by decide +kernel
theorem dX0_beginNext_59 : decode cX0_beginNext 59 = .ok (.invokevirtual 94, 3) := by decide +kernel
theorem dX0_beginNext_62 : decode cX0_beginNext 62 = .ok (.iinc 2 1, 3) := by decide +kernel
theorem dX0_beginNext_65 : decode cX0_beginNext 65 = .ok (.goto (-17), 3) := by decide +kernel
theorem dX0_beginNext_68 : decode cX0_beginNext 68 = .ok (.return_, 1) := by decide +kernel
set_option maxRecDepth 20000 in
theorem ggX0_sendHome_X0_waitFromNow : GoodIn wsX0_sendHome wsX0_waitFromNow := goodIn_r _ [8, 9, 10, 11, 12, 13, 14, 15, 16, 17, 18, 19, 20, 21, 22, 23, 24, 25, 26] (by decide +kernel) (by decide +kernel)
set_option maxRecDepth 20000 in
theorem gX0_sendHome_X0_waitFromNow : GoodIn wsX0_sendHome (wsV RX0 100 RX0 yX0_waitFromNow wsX0_waitFromNow) := goodIn_app (goodIn_of _ (by decide +kernel)) ggX0_sendHome_X0_waitFromNow
theorem dX0_sendHome_0 : decode cX0_sendHome 0 = .ok (.aload_n 0, 1) := by decide +kernel
theorem dX0_sendHome_1 : decode cX0_sendHome 1 = .ok (.getfield 31, 3) := by decide +kernel
theorem dX0_sendHome_4 : decode cX0_sendHome 4 = .ok (.iload_n 2, 1) := by decide +kernel
theorem dX0_sendHome_5 : decode cX0_sendHome 5 = .ok (.aload_n 1, 1) := by decide +kernel
theorem dX0_sendHome_6 : decode cX0_sendHome 6 = .ok (.getfield 97, 3) := by decide +kernel
theorem dX0_sendHome_9 : decode cX0_sendHome 9 = .ok (.iload_n 2, 1) := by decide +kernel
theorem dX0_sendHome_10 : decode cX0_sendHome 10 = .ok (.iaload, 1) := by decide +kernel
theorem dX0_sendHome_11 : decode cX0_sendHome 11 = .ok (.iastore, 1) := by decide +kernel
theorem dX0_sendHome_12 : decode cX0_sendHome 12 = .ok (.aload_n 0, 1) := by decide +kernel
theorem dX0_sendHome_13 : decode cX0_sendHome 13 = .ok (.iload_n 2, 1) := by decide +kernel
theorem dX0_sendHome_14 : decode cX0_sendHome 14 = .ok (.invokevirtual 100, 3) := by decide +kernel
theorem dX0_sendHome_17 : decode cX0_sendHome 17 = .ok (.aload_n 0, 1) := by decide +kernel
theorem dX0_sendHome_18 : decode cX0_sendHome 18 = .ok (.getfield 46, 3) := by decide +kernel
theorem dX0_sendHome_21 : decode cX0_sendHome 21 = .ok (.iload_n 2, 1) := by decide +kernel
theorem dX0_sendHome_22 : decode cX0_sendHome 22 = .ok (.iconst (-1), 1) := by decide +kernel
theorem dX0_sendHome_23 : decode cX0_sendHome 23 = .ok (.iastore, 1) := by decide +kernel
theorem dX0_sendHome_24 : decode cX0_sendHome 24 = .ok (.return_, 1) := by decide +kernel
theorem dX0_whoGoesTo_0 : decode cX0_whoGoesTo 0 = .ok (.iconst 0, 1) := by decide +kernel
theorem dX0_whoGoesTo_1 : decode cX0_whoGoesTo 1 = .ok (.istore_n 3, 1) := by decide +kernel
theorem dX0_whoGoesTo_2 : decode cX0_whoGoesTo 2 = .ok (.iload_n 3, 1) := by decide +kernel
theorem dX0_whoGoesTo_3 : decode cX0_whoGoesTo 3 = .ok (.aload_n 1, 1) := by decide +kernel
theorem dX0_whoGoesTo_4 : decode cX0_whoGoesTo 4 = .ok (.getfield 91, 3) := by decide +kernel
theorem dX0_whoGoesTo_7 : decode cX0_whoGoesTo 7 = .ok (.if_icmp .ge 21, 3) := by decide +kernel
theorem dX0_whoGoesTo_10 : decode cX0_whoGoesTo 10 = .ok (.aload_n 0, 1) := by decide +kernel
theorem dX0_whoGoesTo_11 : decode cX0_whoGoesTo 11 = .ok (.getfield 37, 3) := by decide +kernel
theorem dX0_whoGoesTo_14 : decode cX0_whoGoesTo 14 = .ok (.iload_n 3, 1) := by decide +kernel
theorem dX0_whoGoesTo_15 : decode cX0_whoGoesTo 15 = .ok (.iaload, 1) := by decide +kernel
theorem dX0_whoGoesTo_16 : decode cX0_whoGoesTo 16 = .ok (.iload_n 2, 1) := by decide +kernel
theorem dX0_whoGoesTo_17 : decode cX0_whoGoesTo 17 = .ok (.if_icmp .ne 5, 3) := by decide +kernel
theorem dX0_whoGoesTo_20 : decode cX0_whoGoesTo 20 = .ok (.iload_n 3, 1) := by decide +kernel
theorem dX0_whoGoesTo_21 : decode cX0_whoGoesTo 21 = .ok (.ireturn, 1) := by decide +kernel
theorem dX0_whoGoesTo_22 : decode cX0_whoGoesTo 22 = .ok (.iinc 3 1, 3) := by decide +kernel
theorem dX0_whoGoesTo_25 : decode cX0_whoGoesTo 25 = .ok (.goto (-23), 3) := by decide +kernel
theorem dX0_whoGoesTo_28 : decode cX0_whoGoesTo 28 = .ok (.iconst (-1), 1) := by decide +kernel
theorem dX0_whoGoesTo_29 : decode cX0_whoGoesTo 29 = .ok (.ireturn, 1) := by decide +kernel
theorem dX0_isDark_0 : decode cX0_isDark 0 = .ok (.aload_n 0, 1) := by decide +kernel
theorem dX0_isDark_1 : decode cX0_isDark 1 = .ok (.getfield 9, 3) := by decide +kernel
theorem dX0_isDark_4 : decode cX0_isDark 4 = .ok (.iload_n 1, 1) := by decide +kernel
theorem dX0_isDark_5 : decode cX0_isDark 5 = .ok (.iaload, 1) := by decide +kernel
theorem dX0_isDark_6 : decode cX0_isDark 6 = .ok (.ifCond .ne 7, 3) := by decide +kernel
theorem dX0_isDark_9 : decode cX0_isDark 9 = .ok (.iconst 1, 1) := by decide +kernel
theorem dX0_isDark_10 : decode cX0_isDark 10 = .ok (.goto 4, 3) := by decide +kernel
theorem dX0_isDark_13 : decode cX0_isDark 13 = .ok (.iconst 0, 1) := by decide +kernel
theorem dX0_isDark_14 : decode cX0_isDark 14 = .ok (.ireturn, 1) := by decide +kernel
theorem dX0_burningLamps_0 : decode cX0_burningLamps 0 = .ok (.iconst 0, 1) := by decide +kernel
theorem dX0_burningLamps_1 : decode cX0_burningLamps 1 = .ok (.istore_n 2, 1) := by decide +kernel
theorem dX0_burningLamps_2 : decode cX0_burningLamps 2 = .ok (.iconst 0, 1) := by decide +kernel
theorem dX0_burningLamps_3 : decode cX0_burningLamps 3 = .ok (.istore_n 3, 1) := by decide +kernel
theorem dX0_burningLamps_4 : decode cX0_burningLamps 4 = .ok (.iload_n 3, 1) := by decide +kernel
theorem dX0_burningLamps_5 : decode cX0_burningLamps 5 = .ok (.aload_n 1, 1) := by decide +kernel
theorem dX0_burningLamps_6 : decode cX0_burningLamps 6 = .ok (.getfield 104, 3) := by decide +kernel
theorem dX0_burningLamps_9 : decode cX0_burningLamps 9 = .ok (.if_icmp .ge 18, 3) := by decide +kernel
theorem dX0_burningLamps_12 : decode cX0_burningLamps 12 = .ok (.iload_n 2, 1) := by decide +kernel
theorem dX0_burningLamps_13 : decode cX0_burningLamps 13 = .ok (.aload_n 0, 1) := by decide +kernel
theorem dX0_burningLamps_14 : decode cX0_burningLamps 14 = .ok (.getfield 9, 3) := by decide +kernel
theorem dX0_burningLamps_17 : decode cX0_burningLamps 17 = .ok (.iload_n 3, 1) := by decide +kernel
theorem dX0_burningLamps_18 : decode cX0_burningLamps 18 = .ok (.iaload, 1) := by decide +kernel
theorem dX0_burningLamps_19 : decode cX0_burningLamps 19 = .ok (.iadd, 1) := by decide +kernel
theorem dX0_burningLamps_20 : decode cX0_burningLamps 20 = .ok (.istore_n 2, 1) := by decide +kernel
theorem dX0_burningLamps_21 : decode cX0_burningLamps 21 = .ok (.iinc 3 1, 3) := by decide +kernel
theorem dX0_burningLamps_24 : decode cX0_burningLamps 24 = .ok (.goto (-20), 3) := by decide +kernel
theorem dX0_burningLamps_27 : decode cX0_burningLamps 27 = .ok (.iload_n 2, 1) := by decide +kernel
theorem dX0_burningLamps_28 : decode cX0_burningLamps 28 = .ok (.ireturn, 1) := by decide +kernel
set_option maxRecDepth 20000 in
theorem ggX0_darkStreets_X0_isDark : GoodIn wsX0_darkStreets wsX0_isDark := goodIn_r _ [6, 7, 25, 26, 27, 28, 29, 30, 31, 32, 33, 34, 35, 36, 37, 38, 39, 40] (by decide +kernel) (by decide +kernel)
set_option maxRecDepth 20000 in
theorem gX0_darkStreets_X0_isDark : GoodIn wsX0_darkStreets (wsV RX0 107 RX0 yX0_isDark wsX0_isDark) := goodIn_app (goodIn_of _ (by decide +kernel)) ggX0_darkStreets_X0_isDark
theorem dX0_darkStreets_0 : decode cX0_darkStreets 0 = .ok (.iconst 0, 1) := by decide +kernel
theorem dX0_darkStreets_1 : decode cX0_darkStreets 1 = .ok (.istore_n 2, 1) := by decide +kernel
theorem dX0_darkStreets_2 : decode cX0_darkStreets 2 = .ok (.iconst 0, 1) := by decide +kernel
theorem dX0_darkStreets_3 : decode cX0_darkStreets 3 = .ok (.istore_n 3, 1) := by decide +kernel
theorem dX0_darkStreets_4 : decode cX0_darkStreets 4 = .ok (.iload_n 3, 1) := by decide +kernel
theorem dX0_darkStreets_5 : decode cX0_darkStreets 5 = .ok (.aload_n 1, 1) := by decide +kernel
theorem dX0_darkStreets_6 : decode cX0_darkStreets 6 = .ok (.getfield 104, 3) := by decide +kernel
theorem dX0_darkStreets_9 : decode cX0_darkStreets 9 = .ok (.if_icmp .ge 20, 3) := by decide +kernel
theorem dX0_darkStreets_12 : decode cX0_darkStreets 12 = .ok (.aload_n 0, 1) := by decide +kernel
theorem dX0_darkStreets_13 : decode cX0_darkStreets 13 = .ok (.iload_n 3, 1) := by decide +kernel
theorem dX0_darkStreets_14 : decode cX0_darkStreets 14 = .ok (.invokevirtual 107, 3) := by decide +kernel
theorem dX0_darkStreets_17 : decode cX0_darkStreets 17 = .ok (.ifCond .eq 6, 3) := by decide +kernel
theorem dX0_darkStreets_20 : decode cX0_darkStreets 20 = .ok (.iinc 2 1, 3) := by decide +kernel
theorem dX0_darkStreets_23 : decode cX0_darkStreets 23 = .ok (.iinc 3 1, 3) := by decide +kernel
theorem dX0_darkStreets_26 : decode cX0_darkStreets 26 = .ok (.goto (-22), 3) := by decide +kernel
theorem dX0_darkStreets_29 : decode cX0_darkStreets 29 = .ok (.iload_n 2, 1) := by decide +kernel
theorem dX0_darkStreets_30 : decode cX0_darkStreets 30 = .ok (.ireturn, 1) := by decide +kernel
theorem dX0_oilOfLamps_0 : decode cX0_oilOfLamps 0 = .ok (.iconst 0, 1) := by decide +kernel
theorem dX0_oilOfLamps_1 : decode cX0_oilOfLamps 1 = .ok (.istore_n 2, 1) := by decide +kernel
theorem dX0_oilOfLamps_2 : decode cX0_oilOfLamps 2 = .ok (.iconst 0, 1) := by decide +kernel
theorem dX0_oilOfLamps_3 : decode cX0_oilOfLamps 3 = .ok (.istore_n 3, 1) := by decide +kernel
theorem dX0_oilOfLamps_4 : decode cX0_oilOfLamps 4 = .ok (.iload_n 3, 1) := by decide +kernel
theorem dX0_oilOfLamps_5 : decode cX0_oilOfLamps 5 = .ok (.aload_n 1, 1) := by decide +kernel
theorem dX0_oilOfLamps_6 : decode cX0_oilOfLamps 6 = .ok (.getfield 85, 3) := by decide +kernel
theorem dX0_oilOfLamps_9 : decode cX0_oilOfLamps 9 = .ok (.if_icmp .ge 18, 3) := by decide +kernel
theorem dX0_oilOfLamps_12 : decode cX0_oilOfLamps 12 = .ok (.iload_n 2, 1) := by decide +kernel
theorem dX0_oilOfLamps_13 : decode cX0_oilOfLamps 13 = .ok (.aload_n 0, 1) := by decide +kernel
theorem dX0_oilOfLamps_14 : decode cX0_oilOfLamps 14 = .ok (.getfield 15, 3) := by decide +kernel
theorem dX0_oilOfLamps_17 : decode cX0_oilOfLamps 17 = .ok (.iload_n 3, 1) := by decide +kernel
theorem dX0_oilOfLamps_18 : decode cX0_oilOfLamps 18 = .ok (.iaload, 1) := by decide +kernel
theorem dX0_oilOfLamps_19 : decode cX0_oilOfLamps 19 = .ok (.iadd, 1) := by decide +kernel
theorem dX0_oilOfLamps_20 : decode cX0_oilOfLamps 20 = .ok (.istore_n 2, 1) := by decide +kernel
theorem dX0_oilOfLamps_21 : decode cX0_oilOfLamps 21 = .ok (.iinc 3 1, 3) := by decide +kernel
theorem dX0_oilOfLamps_24 : decode cX0_oilOfLamps 24 = .ok (.goto (-20), 3) := by decide +kernel
theorem dX0_oilOfLamps_27 : decode cX0_oilOfLamps 27 = .ok (.iload_n 2, 1) := by decide +kernel
theorem dX0_oilOfLamps_28 : decode cX0_oilOfLamps 28 = .ok (.ireturn, 1) := by decide +kernel
set_option maxRecDepth 20000 in
theorem ggX0_moveLighters_X0_lookForLamp : GoodIn wsX0_moveLighters wsX0_lookForLamp := goodIn_r _ [8, 9, 10, 11, 2, 12, 13, 14, 3, 15, 16, 17, 18, 7, 19, 20, 21, 22, 23, 24, 25, 1, 26, 27, 28, 29, 30, 31, 32, 33, 34, 35, 36, 37, 38, 39, 40, 41, 42, 60, 61, 62, 63, 64, 65, 66, 67, 68, 69, 70, 71, 72, 73, 74, 75, 76, 77, 78, 79, 80, 81, 82, 83, 84, 85, 86, 87, 88, 89, 90, 91, 92] (by decide +kernel) (by decide +kernel)
set_option maxRecDepth 20000 in
theorem gX0_moveLighters_X0_lookForLamp : GoodIn wsX0_moveLighters (wsV RX0 111 RX0 yX0_lookForLamp wsX0_lookForLamp) := goodIn_app (goodIn_of _ (by decide +kernel)) ggX0_moveLighters_X0_lookForLamp
set_option maxRecDepth 20000 in
theorem ggX0_moveLighters_X0_tendLamp : GoodIn wsX0_moveLighters wsX0_tendLamp := goodIn_r _ [46, 2, 14, 13, 10, 11, 47, 48, 49, 50, 51, 21, 52, 53, 54, 55, 56, 57, 58, 7, 59, 3, 77, 78, 79, 80, 81, 82, 83, 84, 85, 86, 87, 88, 89, 90, 91, 92, 60, 61, 62, 63, 64, 65, 66, 67, 68, 69, 70, 71, 72, 73, 74, 75, 76] (by decide +kernel) (by decide +kernel)
set_option maxRecDepth 20000 in
theorem gX0_moveLighters_X0_tendLamp : GoodIn wsX0_moveLighters (wsV RX0 114 RX0 yX0_tendLamp wsX0_tendLamp) := goodIn_app (goodIn_of _ (by decide +kernel)) ggX0_moveLighters_X0_tendLamp
theorem dX0_moveLighters_0 : decode cX0_moveLighters 0 = .ok (.iconst 0, 1) := by decide +kernel
theorem dX0_moveLighters_1 : decode cX0_moveLighters 1 = .ok (.istore_n 2, 1) := by decide +kernel
theorem dX0_moveLighters_2 : decode cX0_moveLighters 2 = .ok (.iconst 0, 1) := by decide +kernel
theorem dX0_moveLighters_3 : decode cX0_moveLighters 3 = .ok (.istore_n 3, 1) := by decide +kernel
theorem dX0_moveLighters_4 : decode cX0_moveLighters 4 = .ok (.iload_n 3, 1) := by decide +kernel
theorem dX0_moveLighters_5 : decode cX0_moveLighters 5 = .ok (.aload_n 1, 1) := by decide +kernel
theorem dX0_moveLighters_6 : decode cX0_moveLighters 6 = .ok (.getfield 91, 3) := by decide +kernel
theorem dX0_moveLighters_9 : decode cX0_moveLighters 9 = .ok (.if_icmp .ge 66, 3) := by decide +kernel
theorem dX0_moveLighters_12 : decode cX0_moveLighters 12 = .ok (.aload_n 0, 1) := by decide +kernel
theorem dX0_moveLighters_13 : decode cX0_moveLighters 13 = .ok (.getfield 37, 3) := by decide +kernel
theorem dX0_moveLighters_16 : decode cX0_moveLighters 16 = .ok (.iload_n 3, 1) := by decide +kernel
theorem dX0_moveLighters_17 : decode cX0_moveLighters 17 = .ok (.iaload, 1) := by decide +kernel
theorem dX0_moveLighters_18 : decode cX0_moveLighters 18 = .ok (.iconst (-1), 1) := by decide +kernel
theorem dX0_moveLighters_19 : decode cX0_moveLighters 19 = .ok (.if_icmp .ne 9, 3) := by decide +kernel
theorem dX0_moveLighters_22 : decode cX0_moveLighters 22 = .ok (.aload_n 0, 1) := by decide +kernel
theorem dX0_moveLighters_23 : decode cX0_moveLighters 23 = .ok (.aload_n 1, 1) := by decide +kernel
theorem dX0_moveLighters_24 : decode cX0_moveLighters 24 = .ok (.iload_n 3, 1) := by decide +kernel
theorem dX0_moveLighters_25 : decode cX0_moveLighters 25 = .ok (.invokevirtual 111, 3) := by decide +kernel
theorem dX0_moveLighters_28 : decode cX0_moveLighters 28 = .ok (.aload_n 0, 1) := by decide +kernel
theorem dX0_moveLighters_29 : decode cX0_moveLighters 29 = .ok (.getfield 37, 3) := by decide +kernel
theorem dX0_moveLighters_32 : decode cX0_moveLighters 32 = .ok (.iload_n 3, 1) := by decide +kernel
theorem dX0_moveLighters_33 : decode cX0_moveLighters 33 = .ok (.iaload, 1) := by decide +kernel
theorem dX0_moveLighters_34 : decode cX0_moveLighters 34 = .ok (.iconst (-1), 1) := by decide +kernel
theorem dX0_moveLighters_35 : decode cX0_moveLighters 35 = .ok (.if_icmp .eq 34, 3) := by decide +kernel
theorem dX0_moveLighters_38 : decode cX0_moveLighters 38 = .ok (.aload_n 0, 1) := by decide +kernel
theorem dX0_moveLighters_39 : decode cX0_moveLighters 39 = .ok (.getfield 43, 3) := by decide +kernel
theorem dX0_moveLighters_42 : decode cX0_moveLighters 42 = .ok (.iload_n 3, 1) := by decide +kernel
theorem dX0_moveLighters_43 : decode cX0_moveLighters 43 = .ok (.dup2, 1) := by decide +kernel
theorem dX0_moveLighters_44 : decode cX0_moveLighters 44 = .ok (.iaload, 1) := by decide +kernel
theorem dX0_moveLighters_45 : decode cX0_moveLighters 45 = .ok (.iconst 1, 1) := by decide +kernel
theorem dX0_moveLighters_46 : decode cX0_moveLighters 46 = .ok (.isub, 1) := by decide +kernel
theorem dX0_moveLighters_47 : decode cX0_moveLighters 47 = .ok (.iastore, 1) := by decide +kernel
theorem dX0_moveLighters_48 : decode cX0_moveLighters 48 = .ok (.aload_n 0, 1) := by decide +kernel
theorem dX0_moveLighters_49 : decode cX0_moveLighters 49 = .ok (.getfield 43, 3) := by decide +kernel
theorem dX0_moveLighters_52 : decode cX0_moveLighters 52 = .ok (.iload_n 3, 1) := by decide +kernel
theorem dX0_moveLighters_53 : decode cX0_moveLighters 53 = .ok (.iaload, 1) := by decide +kernel
theorem dX0_moveLighters_54 : decode cX0_moveLighters 54 = .ok (.ifCond .ne 15, 3) := by decide +kernel
theorem dX0_moveLighters_57 : decode cX0_moveLighters 57 = .ok (.aload_n 0, 1) := by decide +kernel
theorem dX0_moveLighters_58 : decode cX0_moveLighters 58 = .ok (.aload_n 1, 1) := by decide +kernel
theorem dX0_moveLighters_59 : decode cX0_moveLighters 59 = .ok (.iload_n 3, 1) := by decide +kernel
theorem dX0_moveLighters_60 : decode cX0_moveLighters 60 = .ok (.invokevirtual 114, 3) := by decide +kernel
theorem dX0_moveLighters_63 : decode cX0_moveLighters 63 = .ok (.ifCond .eq 6, 3) := by decide +kernel
theorem dX0_moveLighters_66 : decode cX0_moveLighters 66 = .ok (.iinc 2 1, 3) := by decide +kernel
theorem dX0_moveLighters_69 : decode cX0_moveLighters 69 = .ok (.iinc 3 1, 3) := by decide +kernel
theorem dX0_moveLighters_72 : decode cX0_moveLighters 72 = .ok (.goto (-68), 3) := by decide +kernel
theorem dX0_moveLighters_75 : decode cX0_moveLighters 75 = .ok (.iload_n 2, 1) := by decide +kernel
theorem dX0_moveLighters_76 : decode cX0_moveLighters 76 = .ok (.ireturn, 1) := by decide +kernel
set_option maxRecDepth 20000 in
theorem ggX0_lookForLamp_X0_placeOfNextLamp : GoodIn wsX0_lookForLamp wsX0_placeOfNextLamp := goodIn_r _ [14, 15, 5, 1, 16, 7, 17, 18, 19, 13, 20, 21, 4, 22, 23, 24, 25, 26, 27, 28, 29, 30, 31, 32, 33, 34, 35, 36, 37, 39, 40, 41, 42, 43, 44, 45, 46, 47, 48, 49, 50, 51, 52, 53, 54, 55, 56, 57, 58, 59, 60, 61, 62, 63, 64, 65, 66, 67, 68, 69, 70, 71] (by decide +kernel) (by decide +kernel)
set_option maxRecDepth 20000 in
theorem gX0_lookForLamp_X0_placeOfNextLamp : GoodIn wsX0_lookForLamp (wsV RX0 118 RX0 yX0_placeOfNextLamp wsX0_placeOfNextLamp) := goodIn_app (goodIn_of _ (by decide +kernel)) ggX0_lookForLamp_X0_placeOfNextLamp
set_option maxRecDepth 20000 in
theorem ggX0_lookForLamp_X1_nearerEnd : GoodIn wsX0_lookForLamp wsX1_nearerEnd := goodIn_r _ [34, 35, 36, 37, 29, 39, 40, 41, 42, 43, 44, 45, 46, 47, 48, 49, 50, 51, 52, 53, 54, 55] (by decide +kernel) (by decide +kernel)
set_option maxRecDepth 20000 in
theorem gX0_lookForLamp_X1_nearerEnd : GoodIn wsX0_lookForLamp (wsV RX0 126 RX1 yX1_nearerEnd wsX1_nearerEnd) := goodIn_app (goodIn_of _ (by decide +kernel)) ggX0_lookForLamp_X1_nearerEnd
theorem dX0_lookForLamp_0 : decode cX0_lookForLamp 0 = .ok (.aload_n 0, 1) := by decide +kernel
theorem dX0_lookForLamp_1 : decode cX0_lookForLamp 1 = .ok (.aload_n 1, 1) := by decide +kernel
theorem dX0_lookForLamp_2 : decode cX0_lookForLamp 2 = .ok (.iload_n 2, 1) := by decide +kernel
theorem dX0_lookForLamp_3 : decode cX0_lookForLamp 3 = .ok (.invokevirtual 118, 3) := by decide +kernel
theorem dX0_lookForLamp_6 : decode cX0_lookForLamp 6 = .ok (.istore_n 3, 1) := by decide +kernel
theorem dX0_lookForLamp_7 : decode cX0_lookForLamp 7 = .ok (.iload_n 3, 1) := by decide +kernel
theorem dX0_lookForLamp_8 : decode cX0_lookForLamp 8 = .ok (.iconst (-1), 1) := by decide +kernel
theorem dX0_lookForLamp_9 : decode cX0_lookForLamp 9 = .ok (.if_icmp .ne 4, 3) := by decide +kernel
theorem dX0_lookForLamp_12 : decode cX0_lookForLamp 12 = .ok (.return_, 1) := by decide +kernel
theorem dX0_lookForLamp_13 : decode cX0_lookForLamp 13 = .ok (.aload_n 1, 1) := by decide +kernel
theorem dX0_lookForLamp_14 : decode cX0_lookForLamp 14 = .ok (.getfield 122, 3) := by decide +kernel
theorem dX0_lookForLamp_17 : decode cX0_lookForLamp 17 = .ok (.iload_n 2, 1) := by decide +kernel
theorem dX0_lookForLamp_18 : decode cX0_lookForLamp 18 = .ok (.aaload, 1) := by decide +kernel
theorem dX0_lookForLamp_19 : decode cX0_lookForLamp 19 = .ok (.iload_n 3, 1) := by decide +kernel
theorem dX0_lookForLamp_20 : decode cX0_lookForLamp 20 = .ok (.iaload, 1) := by decide +kernel
theorem dX0_lookForLamp_21 : decode cX0_lookForLamp 21 = .ok (.istore 4, 2) := by decide +kernel
theorem dX0_lookForLamp_23 : decode cX0_lookForLamp 23 = .ok (.aload_n 0, 1) := by decide +kernel
theorem dX0_lookForLamp_24 : decode cX0_lookForLamp 24 = .ok (.getfield 34, 3) := by decide +kernel
theorem dX0_lookForLamp_27 : decode cX0_lookForLamp 27 = .ok (.iload_n 2, 1) := by decide +kernel
theorem dX0_lookForLamp_28 : decode cX0_lookForLamp 28 = .ok (.iaload, 1) := by decide +kernel
theorem dX0_lookForLamp_29 : decode cX0_lookForLamp 29 = .ok (.ifCond .gt 13, 3) := by decide +kernel
theorem dX0_lookForLamp_32 : decode cX0_lookForLamp 32 = .ok (.aload_n 0, 1) := by decide +kernel
theorem dX0_lookForLamp_33 : decode cX0_lookForLamp 33 = .ok (.getfield 15, 3) := by decide +kernel
theorem dX0_lookForLamp_36 : decode cX0_lookForLamp 36 = .ok (.iload 4, 2) := by decide +kernel
theorem dX0_lookForLamp_38 : decode cX0_lookForLamp 38 = .ok (.iaload, 1) := by decide +kernel
theorem dX0_lookForLamp_39 : decode cX0_lookForLamp 39 = .ok (.ifCond .le 62, 3) := by decide +kernel
theorem dX0_lookForLamp_42 : decode cX0_lookForLamp 42 = .ok (.aload_n 0, 1) := by decide +kernel
theorem dX0_lookForLamp_43 : decode cX0_lookForLamp 43 = .ok (.getfield 37, 3) := by decide +kernel
theorem dX0_lookForLamp_46 : decode cX0_lookForLamp 46 = .ok (.iload_n 2, 1) := by decide +kernel
theorem dX0_lookForLamp_47 : decode cX0_lookForLamp 47 = .ok (.iload 4, 2) := by decide +kernel
theorem dX0_lookForLamp_49 : decode cX0_lookForLamp 49 = .ok (.iastore, 1) := by decide +kernel
theorem dX0_lookForLamp_50 : decode cX0_lookForLamp 50 = .ok (.aload_n 0, 1) := by decide +kernel
theorem dX0_lookForLamp_51 : decode cX0_lookForLamp 51 = .ok (.getfield 46, 3) := by decide +kernel
theorem dX0_lookForLamp_54 : decode cX0_lookForLamp 54 = .ok (.iload_n 2, 1) := by decide +kernel
theorem dX0_lookForLamp_55 : decode cX0_lookForLamp 55 = .ok (.iload_n 3, 1) := by decide +kernel
theorem dX0_lookForLamp_56 : decode cX0_lookForLamp 56 = .ok (.iastore, 1) := by decide +kernel
theorem dX0_lookForLamp_57 : decode cX0_lookForLamp 57 = .ok (.aload_n 0, 1) := by decide +kernel
theorem dX0_lookForLamp_58 : decode cX0_lookForLamp 58 = .ok (.getfield 40, 3) := by decide +kernel
theorem dX0_lookForLamp_61 : decode cX0_lookForLamp 61 = .ok (.iload_n 2, 1) := by decide +kernel
theorem dX0_lookForLamp_62 : decode cX0_lookForLamp 62 = .ok (.aload_n 1, 1) := by decide +kernel
theorem dX0_lookForLamp_63 : decode cX0_lookForLamp 63 = .ok (.aload_n 0, 1) := by decide +kernel
theorem dX0_lookForLamp_64 : decode cX0_lookForLamp 64 = .ok (.getfield 31, 3) := by decide +kernel
theorem dX0_lookForLamp_67 : decode cX0_lookForLamp 67 = .ok (.iload_n 2, 1) := by decide +kernel
theorem dX0_lookForLamp_68 : decode cX0_lookForLamp 68 = .ok (.iaload, 1) := by decide +kernel
theorem dX0_lookForLamp_69 : decode cX0_lookForLamp 69 = .ok (.iload 4, 2) := by decide +kernel
theorem dX0_lookForLamp_71 : decode cX0_lookForLamp 71 = .ok (.invokevirtual 126, 3) := by decide +kernel
theorem dX0_lookForLamp_74 : decode cX0_lookForLamp 74 = .ok (.iastore, 1) := by decide +kernel
theorem dX0_lookForLamp_75 : decode cX0_lookForLamp 75 = .ok (.aload_n 0, 1) := by decide +kernel
theorem dX0_lookForLamp_76 : decode cX0_lookForLamp 76 = .ok (.getfield 43, 3) := by decide +kernel
theorem dX0_lookForLamp_79 : decode cX0_lookForLamp 79 = .ok (.iload_n 2, 1) := by decide +kernel
theorem dX0_lookForLamp_80 : decode cX0_lookForLamp 80 = .ok (.aload_n 1, 1) := by decide +kernel
theorem dX0_lookForLamp_81 : decode cX0_lookForLamp 81 = .ok (.getfield 130, 3) := by decide +kernel
theorem dX0_lookForLamp_84 : decode cX0_lookForLamp 84 = .ok (.aload_n 0, 1) := by decide +kernel
theorem dX0_lookForLamp_85 : decode cX0_lookForLamp 85 = .ok (.getfield 31, 3) := by decide +kernel
theorem dX0_lookForLamp_88 : decode cX0_lookForLamp 88 = .ok (.iload_n 2, 1) := by decide +kernel
theorem dX0_lookForLamp_89 : decode cX0_lookForLamp 89 = .ok (.iaload, 1) := by decide +kernel
theorem dX0_lookForLamp_90 : decode cX0_lookForLamp 90 = .ok (.aaload, 1) := by decide +kernel
theorem dX0_lookForLamp_91 : decode cX0_lookForLamp 91 = .ok (.aload_n 0, 1) := by decide +kernel
theorem dX0_lookForLamp_92 : decode cX0_lookForLamp 92 = .ok (.getfield 40, 3) := by decide +kernel
theorem dX0_lookForLamp_95 : decode cX0_lookForLamp 95 = .ok (.iload_n 2, 1) := by decide +kernel
theorem dX0_lookForLamp_96 : decode cX0_lookForLamp 96 = .ok (.iaload, 1) := by decide +kernel
theorem dX0_lookForLamp_97 : decode cX0_lookForLamp 97 = .ok (.iaload, 1) := by decide +kernel
theorem dX0_lookForLamp_98 : decode cX0_lookForLamp 98 = .ok (.iconst 3, 1) := by decide +kernel
theorem dX0_lookForLamp_99 : decode cX0_lookForLamp 99 = .ok (.iadd, 1) := by decide +kernel
theorem dX0_lookForLamp_100 : decode cX0_lookForLamp 100 = .ok (.iastore, 1) := by decide +kernel
theorem dX0_lookForLamp_101 : decode cX0_lookForLamp 101 = .ok (.return_, 1) := by decide +kernel
set_option maxRecDepth 20000 in
theorem ggX0_placeOfNextLamp_X0_whoGoesTo : GoodIn wsX0_placeOfNextLamp wsX0_whoGoesTo := goodIn_r _ [10, 11, 12, 29, 30, 31, 32, 33, 34, 35, 36, 37, 38, 39, 40, 41, 42, 43, 44, 45, 46, 47, 48, 49, 50, 51, 52, 53, 54, 55, 56, 57, 58, 59, 60, 61] (by decide +kernel) (by decide +kernel)
set_option maxRecDepth 20000 in
theorem gX0_placeOfNextLamp_X0_whoGoesTo : GoodIn wsX0_placeOfNextLamp (wsV RX0 136 RX0 yX0_whoGoesTo wsX0_whoGoesTo) := goodIn_app (goodIn_of _ (by decide +kernel)) ggX0_placeOfNextLamp_X0_whoGoesTo
set_option maxRecDepth 20000 in
theorem ggX0_placeOfNextLamp_X1_canReach : GoodIn wsX0_placeOfNextLamp wsX1_canReach := goodIn_r _ [17, 18, 19, 20, 21, 22, 23, 24, 16, 25, 26, 27, 28, 29, 30, 31, 32, 33, 34, 35, 36, 37, 38, 39, 40, 41, 42, 43, 44, 45] (by decide +kernel) (by decide +kernel)
set_option maxRecDepth 20000 in
theorem gX0_placeOfNextLamp_X1_canReach : GoodIn wsX0_placeOfNextLamp (wsV RX0 139 RX1 yX1_canReach wsX1_canReach) := goodIn_app (goodIn_of _ (by decide +kernel)) ggX0_placeOfNextLamp_X1_canReach
theorem dX0_placeOfNextLamp_0 : decode cX0_placeOfNextLamp 0 = .ok (.aload_n 1, 1) := by decide +kernel
theorem dX0_placeOfNextLamp_1 : decode cX0_placeOfNextLamp 1 = .ok (.getfield 133, 3) := by decide +kernel
theorem dX0_placeOfNextLamp_4 : decode cX0_placeOfNextLamp 4 = .ok (.iload_n 2, 1) := by decide +kernel
theorem dX0_placeOfNextLamp_5 : decode cX0_placeOfNextLamp 5 = .ok (.iaload, 1) := by decide +kernel
theorem dX0_placeOfNextLamp_6 : decode cX0_placeOfNextLamp 6 = .ok (.istore_n 3, 1) := by decide +kernel
theorem dX0_placeOfNextLamp_7 : decode cX0_placeOfNextLamp 7 = .ok (.aload_n 0, 1) := by decide +kernel
theorem dX0_placeOfNextLamp_8 : decode cX0_placeOfNextLamp 8 = .ok (.getfield 46, 3) := by decide +kernel
theorem dX0_placeOfNextLamp_11 : decode cX0_placeOfNextLamp 11 = .ok (.iload_n 2, 1) := by decide +kernel
theorem dX0_placeOfNextLamp_12 : decode cX0_placeOfNextLamp 12 = .ok (.iaload, 1) := by decide +kernel
theorem dX0_placeOfNextLamp_13 : decode cX0_placeOfNextLamp 13 = .ok (.istore 4, 2) := by decide +kernel
theorem dX0_placeOfNextLamp_15 : decode cX0_placeOfNextLamp 15 = .ok (.iconst 0, 1) := by decide +kernel
theorem dX0_placeOfNextLamp_16 : decode cX0_placeOfNextLamp 16 = .ok (.istore 5, 2) := by decide +kernel
theorem dX0_placeOfNextLamp_18 : decode cX0_placeOfNextLamp 18 = .ok (.iload 5, 2) := by decide +kernel
theorem dX0_placeOfNextLamp_20 : decode cX0_placeOfNextLamp 20 = .ok (.iload_n 3, 1) := by decide +kernel
theorem dX0_placeOfNextLamp_21 : decode cX0_placeOfNextLamp 21 = .ok (.if_icmp .ge 78, 3) := by decide +kernel
theorem dX0_placeOfNextLamp_24 : decode cX0_placeOfNextLamp 24 = .ok (.iload 4, 2) := by decide +kernel
theorem dX0_placeOfNextLamp_26 : decode cX0_placeOfNextLamp 26 = .ok (.iconst 1, 1) := by decide +kernel
theorem dX0_placeOfNextLamp_27 : decode cX0_placeOfNextLamp 27 = .ok (.iadd, 1) := by decide +kernel
theorem dX0_placeOfNextLamp_28 : decode cX0_placeOfNextLamp 28 = .ok (.iload_n 3, 1) := by decide +kernel
theorem dX0_placeOfNextLamp_29 : decode cX0_placeOfNextLamp 29 = .ok (.if_icmp .ge 10, 3) := by decide +kernel
theorem dX0_placeOfNextLamp_32 : decode cX0_placeOfNextLamp 32 = .ok (.iload 4, 2) := by decide +kernel
theorem dX0_placeOfNextLamp_34 : decode cX0_placeOfNextLamp 34 = .ok (.iconst 1, 1) := by decide +kernel
theorem dX0_placeOfNextLamp_35 : decode cX0_placeOfNextLamp 35 = .ok (.iadd, 1) := by decide +kernel
theorem dX0_placeOfNextLamp_36 : decode cX0_placeOfNextLamp 36 = .ok (.goto 4, 3) := by decide +kernel
theorem dX0_placeOfNextLamp_39 : decode cX0_placeOfNextLamp 39 = .ok (.iconst 0, 1) := by decide +kernel
theorem dX0_placeOfNextLamp_40 : decode cX0_placeOfNextLamp 40 = .ok (.istore 4, 2) := by decide +kernel
theorem dX0_placeOfNextLamp_42 : decode cX0_placeOfNextLamp 42 = .ok (.aload_n 1, 1) := by decide +kernel
theorem dX0_placeOfNextLamp_43 : decode cX0_placeOfNextLamp 43 = .ok (.getfield 122, 3) := by decide +kernel
theorem dX0_placeOfNextLamp_46 : decode cX0_placeOfNextLamp 46 = .ok (.iload_n 2, 1) := by decide +kernel
theorem dX0_placeOfNextLamp_47 : decode cX0_placeOfNextLamp 47 = .ok (.aaload, 1) := by decide +kernel
theorem dX0_placeOfNextLamp_48 : decode cX0_placeOfNextLamp 48 = .ok (.iload 4, 2) := by decide +kernel
theorem dX0_placeOfNextLamp_50 : decode cX0_placeOfNextLamp 50 = .ok (.iaload, 1) := by decide +kernel
theorem dX0_placeOfNextLamp_51 : decode cX0_placeOfNextLamp 51 = .ok (.istore 6, 2) := by decide +kernel
theorem dX0_placeOfNextLamp_53 : decode cX0_placeOfNextLamp 53 = .ok (.aload_n 0, 1) := by decide +kernel
theorem dX0_placeOfNextLamp_54 : decode cX0_placeOfNextLamp 54 = .ok (.getfield 21, 3) := by decide +kernel
theorem dX0_placeOfNextLamp_57 : decode cX0_placeOfNextLamp 57 = .ok (.iload 6, 2) := by decide +kernel
theorem dX0_placeOfNextLamp_59 : decode cX0_placeOfNextLamp 59 = .ok (.baload, 1) := by decide +kernel
theorem dX0_placeOfNextLamp_60 : decode cX0_placeOfNextLamp 60 = .ok (.ifCond .ne 33, 3) := by decide +kernel
theorem dX0_placeOfNextLamp_63 : decode cX0_placeOfNextLamp 63 = .ok (.aload_n 0, 1) := by decide +kernel
theorem dX0_placeOfNextLamp_64 : decode cX0_placeOfNextLamp 64 = .ok (.aload_n 1, 1) := by decide +kernel
theorem dX0_placeOfNextLamp_65 : decode cX0_placeOfNextLamp 65 = .ok (.iload 6, 2) := by decide +kernel
theorem dX0_placeOfNextLamp_67 : decode cX0_placeOfNextLamp 67 = .ok (.invokevirtual 136, 3) := by decide +kernel
theorem dX0_placeOfNextLamp_70 : decode cX0_placeOfNextLamp 70 = .ok (.iconst (-1), 1) := by decide +kernel
theorem dX0_placeOfNextLamp_71 : decode cX0_placeOfNextLamp 71 = .ok (.if_icmp .ne 22, 3) := by decide +kernel
theorem dX0_placeOfNextLamp_74 : decode cX0_placeOfNextLamp 74 = .ok (.aload_n 1, 1) := by decide +kernel
theorem dX0_placeOfNextLamp_75 : decode cX0_placeOfNextLamp 75 = .ok (.iload_n 2, 1) := by decide +kernel
theorem dX0_placeOfNextLamp_76 : decode cX0_placeOfNextLamp 76 = .ok (.aload_n 0, 1) := by decide +kernel
theorem dX0_placeOfNextLamp_77 : decode cX0_placeOfNextLamp 77 = .ok (.getfield 31, 3) := by decide +kernel
theorem dX0_placeOfNextLamp_80 : decode cX0_placeOfNextLamp 80 = .ok (.iload_n 2, 1) := by decide +kernel
theorem dX0_placeOfNextLamp_81 : decode cX0_placeOfNextLamp 81 = .ok (.iaload, 1) := by decide +kernel
theorem dX0_placeOfNextLamp_82 : decode cX0_placeOfNextLamp 82 = .ok (.iload 6, 2) := by decide +kernel
theorem dX0_placeOfNextLamp_84 : decode cX0_placeOfNextLamp 84 = .ok (.invokevirtual 139, 3) := by decide +kernel
theorem dX0_placeOfNextLamp_87 : decode cX0_placeOfNextLamp 87 = .ok (.ifCond .eq 6, 3) := by decide +kernel
theorem dX0_placeOfNextLamp_90 : decode cX0_placeOfNextLamp 90 = .ok (.iload 4, 2) := by decide +kernel
theorem dX0_placeOfNextLamp_92 : decode cX0_placeOfNextLamp 92 = .ok (.ireturn, 1) := by decide +kernel
theorem dX0_placeOfNextLamp_93 : decode cX0_placeOfNextLamp 93 = .ok (.iinc 5 1, 3) := by decide +kernel
theorem dX0_placeOfNextLamp_96 : decode cX0_placeOfNextLamp 96 = .ok (.goto (-78), 3) := by decide +kernel
theorem dX0_placeOfNextLamp_99 : decode cX0_placeOfNextLamp 99 = .ok (.iconst (-1), 1) := by decide +kernel
theorem dX0_placeOfNextLamp_100 : decode cX0_placeOfNextLamp 100 = .ok (.ireturn, 1) := by decide +kernel
set_option maxRecDepth 20000 in
theorem ggX0_tendLamp_X0_waitFromNow : GoodIn wsX0_tendLamp wsX0_waitFromNow := goodIn_r _ [20, 1, 21, 22, 23, 24, 25, 26, 27, 28, 29, 30, 31, 32, 33, 34, 35, 36, 37] (by decide +kernel) (by decide +kernel)
set_option maxRecDepth 20000 in
theorem gX0_tendLamp_X0_waitFromNow : GoodIn wsX0_tendLamp (wsV RX0 100 RX0 yX0_waitFromNow wsX0_waitFromNow) := goodIn_app (goodIn_of _ (by decide +kernel)) ggX0_tendLamp_X0_waitFromNow
theorem dX0_tendLamp_0 : decode cX0_tendLamp 0 = .ok (.aload_n 0, 1) := by decide +kernel
theorem dX0_tendLamp_1 : decode cX0_tendLamp 1 = .ok (.getfield 37, 3) := by decide +kernel
theorem dX0_tendLamp_4 : decode cX0_tendLamp 4 = .ok (.iload_n 2, 1) := by decide +kernel
theorem dX0_tendLamp_5 : decode cX0_tendLamp 5 = .ok (.iaload, 1) := by decide +kernel
theorem dX0_tendLamp_6 : decode cX0_tendLamp 6 = .ok (.istore_n 3, 1) := by decide +kernel
theorem dX0_tendLamp_7 : decode cX0_tendLamp 7 = .ok (.aload_n 0, 1) := by decide +kernel
theorem dX0_tendLamp_8 : decode cX0_tendLamp 8 = .ok (.getfield 31, 3) := by decide +kernel
theorem dX0_tendLamp_11 : decode cX0_tendLamp 11 = .ok (.iload_n 2, 1) := by decide +kernel
theorem dX0_tendLamp_12 : decode cX0_tendLamp 12 = .ok (.aload_n 0, 1) := by decide +kernel
theorem dX0_tendLamp_13 : decode cX0_tendLamp 13 = .ok (.getfield 40, 3) := by decide +kernel
theorem dX0_tendLamp_16 : decode cX0_tendLamp 16 = .ok (.iload_n 2, 1) := by decide +kernel
theorem dX0_tendLamp_17 : decode cX0_tendLamp 17 = .ok (.iaload, 1) := by decide +kernel
theorem dX0_tendLamp_18 : decode cX0_tendLamp 18 = .ok (.iastore, 1) := by decide +kernel
theorem dX0_tendLamp_19 : decode cX0_tendLamp 19 = .ok (.aload_n 0, 1) := by decide +kernel
theorem dX0_tendLamp_20 : decode cX0_tendLamp 20 = .ok (.iload_n 2, 1) := by decide +kernel
theorem dX0_tendLamp_21 : decode cX0_tendLamp 21 = .ok (.invokevirtual 100, 3) := by decide +kernel
theorem dX0_tendLamp_24 : decode cX0_tendLamp 24 = .ok (.aload_n 0, 1) := by decide +kernel
theorem dX0_tendLamp_25 : decode cX0_tendLamp 25 = .ok (.getfield 34, 3) := by decide +kernel
theorem dX0_tendLamp_28 : decode cX0_tendLamp 28 = .ok (.iload_n 2, 1) := by decide +kernel
theorem dX0_tendLamp_29 : decode cX0_tendLamp 29 = .ok (.iaload, 1) := by decide +kernel
theorem dX0_tendLamp_30 : decode cX0_tendLamp 30 = .ok (.sipush 300, 3) := by decide +kernel
theorem dX0_tendLamp_33 : decode cX0_tendLamp 33 = .ok (.aload_n 0, 1) := by decide +kernel
theorem dX0_tendLamp_34 : decode cX0_tendLamp 34 = .ok (.getfield 15, 3) := by decide +kernel
theorem dX0_tendLamp_37 : decode cX0_tendLamp 37 = .ok (.iload_n 3, 1) := by decide +kernel
theorem dX0_tendLamp_38 : decode cX0_tendLamp 38 = .ok (.iaload, 1) := by decide +kernel
theorem dX0_tendLamp_39 : decode cX0_tendLamp 39 = .ok (.isub, 1) := by decide +kernel
theorem dX0_tendLamp_40 : decode cX0_tendLamp 40 = .ok (.invokestatic 143, 3) := by decide +kernel
theorem dX0_tendLamp_43 : decode cX0_tendLamp 43 = .ok (.istore 4, 2) := by decide +kernel
theorem dX0_tendLamp_45 : decode cX0_tendLamp 45 = .ok (.aload_n 0, 1) := by decide +kernel
theorem dX0_tendLamp_46 : decode cX0_tendLamp 46 = .ok (.getfield 34, 3) := by decide +kernel
theorem dX0_tendLamp_49 : decode cX0_tendLamp 49 = .ok (.iload_n 2, 1) := by decide +kernel
theorem dX0_tendLamp_50 : decode cX0_tendLamp 50 = .ok (.dup2, 1) := by decide +kernel
theorem dX0_tendLamp_51 : decode cX0_tendLamp 51 = .ok (.iaload, 1) := by decide +kernel
theorem dX0_tendLamp_52 : decode cX0_tendLamp 52 = .ok (.iload 4, 2) := by decide +kernel
theorem dX0_tendLamp_54 : decode cX0_tendLamp 54 = .ok (.isub, 1) := by decide +kernel
theorem dX0_tendLamp_55 : decode cX0_tendLamp 55 = .ok (.iastore, 1) := by decide +kernel
theorem dX0_tendLamp_56 : decode cX0_tendLamp 56 = .ok (.aload_n 0, 1) := by decide +kernel
theorem dX0_tendLamp_57 : decode cX0_tendLamp 57 = .ok (.getfield 15, 3) := by decide +kernel
theorem dX0_tendLamp_60 : decode cX0_tendLamp 60 = .ok (.iload_n 3, 1) := by decide +kernel
theorem dX0_tendLamp_61 : decode cX0_tendLamp 61 = .ok (.dup2, 1) := by decide +kernel
theorem dX0_tendLamp_62 : decode cX0_tendLamp 62 = .ok (.iaload, 1) := by decide +kernel
theorem dX0_tendLamp_63 : decode cX0_tendLamp 63 = .ok (.iload 4, 2) := by decide +kernel
theorem dX0_tendLamp_65 : decode cX0_tendLamp 65 = .ok (.iadd, 1) := by decide +kernel
theorem dX0_tendLamp_66 : decode cX0_tendLamp 66 = .ok (.iastore, 1) := by decide +kernel
theorem dX0_tendLamp_67 : decode cX0_tendLamp 67 = .ok (.aload_n 0, 1) := by decide +kernel
theorem dX0_tendLamp_68 : decode cX0_tendLamp 68 = .ok (.getfield 18, 3) := by decide +kernel
theorem dX0_tendLamp_71 : decode cX0_tendLamp 71 = .ok (.iload_n 3, 1) := by decide +kernel
theorem dX0_tendLamp_72 : decode cX0_tendLamp 72 = .ok (.iconst 0, 1) := by decide +kernel
theorem dX0_tendLamp_73 : decode cX0_tendLamp 73 = .ok (.iastore, 1) := by decide +kernel
theorem dX0_tendLamp_74 : decode cX0_tendLamp 74 = .ok (.aload_n 0, 1) := by decide +kernel
theorem dX0_tendLamp_75 : decode cX0_tendLamp 75 = .ok (.getfield 15, 3) := by decide +kernel
theorem dX0_tendLamp_78 : decode cX0_tendLamp 78 = .ok (.iload_n 3, 1) := by decide +kernel
theorem dX0_tendLamp_79 : decode cX0_tendLamp 79 = .ok (.iaload, 1) := by decide +kernel
theorem dX0_tendLamp_80 : decode cX0_tendLamp 80 = .ok (.ifCond .ne 5, 3) := by decide +kernel
theorem dX0_tendLamp_83 : decode cX0_tendLamp 83 = .ok (.iconst 0, 1) := by decide +kernel
theorem dX0_tendLamp_84 : decode cX0_tendLamp 84 = .ok (.ireturn, 1) := by decide +kernel
theorem dX0_tendLamp_85 : decode cX0_tendLamp 85 = .ok (.aload_n 0, 1) := by decide +kernel
theorem dX0_tendLamp_86 : decode cX0_tendLamp 86 = .ok (.getfield 21, 3) := by decide +kernel
theorem dX0_tendLamp_89 : decode cX0_tendLamp 89 = .ok (.iload_n 3, 1) := by decide +kernel
theorem dX0_tendLamp_90 : decode cX0_tendLamp 90 = .ok (.iconst 1, 1) := by decide +kernel
theorem dX0_tendLamp_91 : decode cX0_tendLamp 91 = .ok (.bastore, 1) := by decide +kernel
theorem dX0_tendLamp_92 : decode cX0_tendLamp 92 = .ok (.aload_n 0, 1) := by decide +kernel
theorem dX0_tendLamp_93 : decode cX0_tendLamp 93 = .ok (.getfield 9, 3) := by decide +kernel
theorem dX0_tendLamp_96 : decode cX0_tendLamp 96 = .ok (.aload_n 1, 1) := by decide +kernel
theorem dX0_tendLamp_97 : decode cX0_tendLamp 97 = .ok (.getfield 148, 3) := by decide +kernel
theorem dX0_tendLamp_100 : decode cX0_tendLamp 100 = .ok (.iload_n 3, 1) := by decide +kernel
theorem dX0_tendLamp_101 : decode cX0_tendLamp 101 = .ok (.iaload, 1) := by decide +kernel
theorem dX0_tendLamp_102 : decode cX0_tendLamp 102 = .ok (.dup2, 1) := by decide +kernel
theorem dX0_tendLamp_103 : decode cX0_tendLamp 103 = .ok (.iaload, 1) := by decide +kernel
theorem dX0_tendLamp_104 : decode cX0_tendLamp 104 = .ok (.iconst 1, 1) := by decide +kernel
theorem dX0_tendLamp_105 : decode cX0_tendLamp 105 = .ok (.iadd, 1) := by decide +kernel
theorem dX0_tendLamp_106 : decode cX0_tendLamp 106 = .ok (.iastore, 1) := by decide +kernel
theorem dX0_tendLamp_107 : decode cX0_tendLamp 107 = .ok (.aload_n 0, 1) := by decide +kernel
theorem dX0_tendLamp_108 : decode cX0_tendLamp 108 = .ok (.getfield 25, 3) := by decide +kernel
theorem dX0_tendLamp_111 : decode cX0_tendLamp 111 = .ok (.iload_n 3, 1) := by decide +kernel
theorem dX0_tendLamp_112 : decode cX0_tendLamp 112 = .ok (.dup2, 1) := by decide +kernel
theorem dX0_tendLamp_113 : decode cX0_tendLamp 113 = .ok (.iaload, 1) := by decide +kernel
theorem dX0_tendLamp_114 : decode cX0_tendLamp 114 = .ok (.iconst 1, 1) := by decide +kernel
theorem dX0_tendLamp_115 : decode cX0_tendLamp 115 = .ok (.iadd, 1) := by decide +kernel
theorem dX0_tendLamp_116 : decode cX0_tendLamp 116 = .ok (.iastore, 1) := by decide +kernel
theorem dX0_tendLamp_117 : decode cX0_tendLamp 117 = .ok (.aload_n 0, 1) := by decide +kernel
theorem dX0_tendLamp_118 : decode cX0_tendLamp 118 = .ok (.getfield 49, 3) := by decide +kernel
theorem dX0_tendLamp_121 : decode cX0_tendLamp 121 = .ok (.iload_n 2, 1) := by decide +kernel
theorem dX0_tendLamp_122 : decode cX0_tendLamp 122 = .ok (.dup2, 1) := by decide +kernel
theorem dX0_tendLamp_123 : decode cX0_tendLamp 123 = .ok (.iaload, 1) := by decide +kernel
theorem dX0_tendLamp_124 : decode cX0_tendLamp 124 = .ok (.iconst 1, 1) := by decide +kernel
theorem dX0_tendLamp_125 : decode cX0_tendLamp 125 = .ok (.iadd, 1) := by decide +kernel
theorem dX0_tendLamp_126 : decode cX0_tendLamp 126 = .ok (.iastore, 1) := by decide +kernel
theorem dX0_tendLamp_127 : decode cX0_tendLamp 127 = .ok (.iconst 1, 1) := by decide +kernel
theorem dX0_tendLamp_128 : decode cX0_tendLamp 128 = .ok (.ireturn, 1) := by decide +kernel
theorem dX0_waitFromNow_0 : decode cX0_waitFromNow 0 = .ok (.aload_n 0, 1) := by decide +kernel
theorem dX0_waitFromNow_1 : decode cX0_waitFromNow 1 = .ok (.getfield 37, 3) := by decide +kernel
theorem dX0_waitFromNow_4 : decode cX0_waitFromNow 4 = .ok (.iload_n 1, 1) := by decide +kernel
theorem dX0_waitFromNow_5 : decode cX0_waitFromNow 5 = .ok (.iconst (-1), 1) := by decide +kernel
theorem dX0_waitFromNow_6 : decode cX0_waitFromNow 6 = .ok (.iastore, 1) := by decide +kernel
theorem dX0_waitFromNow_7 : decode cX0_waitFromNow 7 = .ok (.aload_n 0, 1) := by decide +kernel
theorem dX0_waitFromNow_8 : decode cX0_waitFromNow 8 = .ok (.getfield 43, 3) := by decide +kernel
theorem dX0_waitFromNow_11 : decode cX0_waitFromNow 11 = .ok (.iload_n 1, 1) := by decide +kernel
theorem dX0_waitFromNow_12 : decode cX0_waitFromNow 12 = .ok (.iconst 0, 1) := by decide +kernel
theorem dX0_waitFromNow_13 : decode cX0_waitFromNow 13 = .ok (.iastore, 1) := by decide +kernel
theorem dX0_waitFromNow_14 : decode cX0_waitFromNow 14 = .ok (.return_, 1) := by decide +kernel
set_option maxRecDepth 20000 in
theorem ggX0_burnLamps_X0_useOil : GoodIn wsX0_burnLamps wsX0_useOil := goodIn_r _ [13, 14, 4, 5, 6, 7, 8, 15, 16, 17, 18, 12, 19, 2, 20, 21, 39, 40, 41, 42, 43, 44, 45, 46, 47, 48, 49, 50, 51, 52, 53, 54, 22, 23, 24, 25, 26, 27, 28, 29, 30, 31, 32, 33, 34, 35, 36, 37, 38] (by decide +kernel) (by decide +kernel)
set_option maxRecDepth 20000 in
theorem gX0_burnLamps_X0_useOil : GoodIn wsX0_burnLamps (wsV RX0 151 RX0 yX0_useOil wsX0_useOil) := goodIn_app (goodIn_of _ (by decide +kernel)) ggX0_burnLamps_X0_useOil
theorem dX0_burnLamps_0 : decode cX0_burnLamps 0 = .ok (.iconst 0, 1) := by decide +kernel
theorem dX0_burnLamps_1 : decode cX0_burnLamps 1 = .ok (.istore_n 2, 1) := by decide +kernel
theorem dX0_burnLamps_2 : decode cX0_burnLamps 2 = .ok (.iload_n 2, 1) := by decide +kernel
theorem dX0_burnLamps_3 : decode cX0_burnLamps 3 = .ok (.aload_n 1, 1) := by decide +kernel
theorem dX0_burnLamps_4 : decode cX0_burnLamps 4 = .ok (.getfield 85, 3) := by decide +kernel
theorem dX0_burnLamps_7 : decode cX0_burnLamps 7 = .ok (.if_icmp .ge 62, 3) := by decide +kernel
theorem dX0_burnLamps_10 : decode cX0_burnLamps 10 = .ok (.aload_n 0, 1) := by decide +kernel
theorem dX0_burnLamps_11 : decode cX0_burnLamps 11 = .ok (.getfield 21, 3) := by decide +kernel
theorem dX0_burnLamps_14 : decode cX0_burnLamps 14 = .ok (.iload_n 2, 1) := by decide +kernel
theorem dX0_burnLamps_15 : decode cX0_burnLamps 15 = .ok (.baload, 1) := by decide +kernel
theorem dX0_burnLamps_16 : decode cX0_burnLamps 16 = .ok (.ifCond .eq 9, 3) := by decide +kernel
theorem dX0_burnLamps_19 : decode cX0_burnLamps 19 = .ok (.aload_n 0, 1) := by decide +kernel
theorem dX0_burnLamps_20 : decode cX0_burnLamps 20 = .ok (.aload_n 1, 1) := by decide +kernel
theorem dX0_burnLamps_21 : decode cX0_burnLamps 21 = .ok (.iload_n 2, 1) := by decide +kernel
theorem dX0_burnLamps_22 : decode cX0_burnLamps 22 = .ok (.invokevirtual 151, 3) := by decide +kernel
theorem dX0_burnLamps_25 : decode cX0_burnLamps 25 = .ok (.aload_n 0, 1) := by decide +kernel
theorem dX0_burnLamps_26 : decode cX0_burnLamps 26 = .ok (.getfield 21, 3) := by decide +kernel
theorem dX0_burnLamps_29 : decode cX0_burnLamps 29 = .ok (.iload_n 2, 1) := by decide +kernel
theorem dX0_burnLamps_30 : decode cX0_burnLamps 30 = .ok (.baload, 1) := by decide +kernel
theorem dX0_burnLamps_31 : decode cX0_burnLamps 31 = .ok (.ifCond .eq 32, 3) := by decide +kernel
theorem dX0_burnLamps_34 : decode cX0_burnLamps 34 = .ok (.aload_n 0, 1) := by decide +kernel
theorem dX0_burnLamps_35 : decode cX0_burnLamps 35 = .ok (.getfield 52, 3) := by decide +kernel
theorem dX0_burnLamps_38 : decode cX0_burnLamps 38 = .ok (.bipush 30, 2) := by decide +kernel
theorem dX0_burnLamps_40 : decode cX0_burnLamps 40 = .ok (.irem, 1) := by decide +kernel
theorem dX0_burnLamps_41 : decode cX0_burnLamps 41 = .ok (.ifCond .ne 22, 3) := by decide +kernel
theorem dX0_burnLamps_44 : decode cX0_burnLamps 44 = .ok (.aload_n 0, 1) := by decide +kernel
theorem dX0_burnLamps_45 : decode cX0_burnLamps 45 = .ok (.getfield 18, 3) := by decide +kernel
theorem dX0_burnLamps_48 : decode cX0_burnLamps 48 = .ok (.iload_n 2, 1) := by decide +kernel
theorem dX0_burnLamps_49 : decode cX0_burnLamps 49 = .ok (.bipush 9, 2) := by decide +kernel
theorem dX0_burnLamps_51 : decode cX0_burnLamps 51 = .ok (.aload_n 0, 1) := by decide +kernel
theorem dX0_burnLamps_52 : decode cX0_burnLamps 52 = .ok (.getfield 18, 3) := by decide +kernel
theorem dX0_burnLamps_55 : decode cX0_burnLamps 55 = .ok (.iload_n 2, 1) := by decide +kernel
theorem dX0_burnLamps_56 : decode cX0_burnLamps 56 = .ok (.iaload, 1) := by decide +kernel
theorem dX0_burnLamps_57 : decode cX0_burnLamps 57 = .ok (.iconst 1, 1) := by decide +kernel
theorem dX0_burnLamps_58 : decode cX0_burnLamps 58 = .ok (.iadd, 1) := by decide +kernel
theorem dX0_burnLamps_59 : decode cX0_burnLamps 59 = .ok (.invokestatic 143, 3) := by decide +kernel
theorem dX0_burnLamps_62 : decode cX0_burnLamps 62 = .ok (.iastore, 1) := by decide +kernel
theorem dX0_burnLamps_63 : decode cX0_burnLamps 63 = .ok (.iinc 2 1, 3) := by decide +kernel
theorem dX0_burnLamps_66 : decode cX0_burnLamps 66 = .ok (.goto (-64), 3) := by decide +kernel
theorem dX0_burnLamps_69 : decode cX0_burnLamps 69 = .ok (.return_, 1) := by decide +kernel
set_option maxRecDepth 20000 in
theorem ggX0_useOil_X0_putOut : GoodIn wsX0_useOil wsX0_putOut := goodIn_r _ [12, 13, 14, 15, 16, 17, 18, 19, 20, 21, 22, 23, 24, 25, 26, 27, 28, 29, 30, 31, 32, 33, 34, 35, 36, 37, 38, 39, 40, 41, 42, 43, 44, 45, 46, 47, 48] (by decide +kernel) (by decide +kernel)
set_option maxRecDepth 20000 in
theorem gX0_useOil_X0_putOut : GoodIn wsX0_useOil (wsV RX0 88 RX0 yX0_putOut wsX0_putOut) := goodIn_app (goodIn_of _ (by decide +kernel)) ggX0_useOil_X0_putOut
theorem dX0_useOil_0 : decode cX0_useOil 0 = .ok (.aload_n 0, 1) := by decide +kernel
theorem dX0_useOil_1 : decode cX0_useOil 1 = .ok (.getfield 15, 3) := by decide +kernel
theorem dX0_useOil_4 : decode cX0_useOil 4 = .ok (.iload_n 2, 1) := by decide +kernel
theorem dX0_useOil_5 : decode cX0_useOil 5 = .ok (.iaload, 1) := by decide +kernel
theorem dX0_useOil_6 : decode cX0_useOil 6 = .ok (.aload_n 0, 1) := by decide +kernel
theorem dX0_useOil_7 : decode cX0_useOil 7 = .ok (.getfield 18, 3) := by decide +kernel
theorem dX0_useOil_10 : decode cX0_useOil 10 = .ok (.iload_n 2, 1) := by decide +kernel
theorem dX0_useOil_11 : decode cX0_useOil 11 = .ok (.iaload, 1) := by decide +kernel
theorem dX0_useOil_12 : decode cX0_useOil 12 = .ok (.iconst 5, 1) := by decide +kernel
theorem dX0_useOil_13 : decode cX0_useOil 13 = .ok (.if_icmp .lt 7, 3) := by decide +kernel
theorem dX0_useOil_16 : decode cX0_useOil 16 = .ok (.iconst 2, 1) := by decide +kernel
theorem dX0_useOil_17 : decode cX0_useOil 17 = .ok (.goto 4, 3) := by decide +kernel
theorem dX0_useOil_20 : decode cX0_useOil 20 = .ok (.iconst 1, 1) := by decide +kernel
theorem dX0_useOil_21 : decode cX0_useOil 21 = .ok (.invokestatic 143, 3) := by decide +kernel
theorem dX0_useOil_24 : decode cX0_useOil 24 = .ok (.istore_n 3, 1) := by decide +kernel
theorem dX0_useOil_25 : decode cX0_useOil 25 = .ok (.aload_n 0, 1) := by decide +kernel
theorem dX0_useOil_26 : decode cX0_useOil 26 = .ok (.getfield 15, 3) := by decide +kernel
theorem dX0_useOil_29 : decode cX0_useOil 29 = .ok (.iload_n 2, 1) := by decide +kernel
theorem dX0_useOil_30 : decode cX0_useOil 30 = .ok (.dup2, 1) := by decide +kernel
theorem dX0_useOil_31 : decode cX0_useOil 31 = .ok (.iaload, 1) := by decide +kernel
theorem dX0_useOil_32 : decode cX0_useOil 32 = .ok (.iload_n 3, 1) := by decide +kernel
theorem dX0_useOil_33 : decode cX0_useOil 33 = .ok (.isub, 1) := by decide +kernel
theorem dX0_useOil_34 : decode cX0_useOil 34 = .ok (.iastore, 1) := by decide +kernel
theorem dX0_useOil_35 : decode cX0_useOil 35 = .ok (.aload_n 0, 1) := by decide +kernel
theorem dX0_useOil_36 : decode cX0_useOil 36 = .ok (.dup, 1) := by decide +kernel
theorem dX0_useOil_37 : decode cX0_useOil 37 = .ok (.getfield 59, 3) := by decide +kernel
theorem dX0_useOil_40 : decode cX0_useOil 40 = .ok (.iload_n 3, 1) := by decide +kernel
theorem dX0_useOil_41 : decode cX0_useOil 41 = .ok (.iadd, 1) := by decide +kernel
theorem dX0_useOil_42 : decode cX0_useOil 42 = .ok (.putfield 59, 3) := by decide +kernel
theorem dX0_useOil_45 : decode cX0_useOil 45 = .ok (.aload_n 0, 1) := by decide +kernel
theorem dX0_useOil_46 : decode cX0_useOil 46 = .ok (.getfield 15, 3) := by decide +kernel
theorem dX0_useOil_49 : decode cX0_useOil 49 = .ok (.iload_n 2, 1) := by decide +kernel
theorem dX0_useOil_50 : decode cX0_useOil 50 = .ok (.iaload, 1) := by decide +kernel
theorem dX0_useOil_51 : decode cX0_useOil 51 = .ok (.ifCond .ne 9, 3) := by decide +kernel
theorem dX0_useOil_54 : decode cX0_useOil 54 = .ok (.aload_n 0, 1) := by decide +kernel
theorem dX0_useOil_55 : decode cX0_useOil 55 = .ok (.aload_n 1, 1) := by decide +kernel
theorem dX0_useOil_56 : decode cX0_useOil 56 = .ok (.iload_n 2, 1) := by decide +kernel
theorem dX0_useOil_57 : decode cX0_useOil 57 = .ok (.invokevirtual 88, 3) := by decide +kernel
theorem dX0_useOil_60 : decode cX0_useOil 60 = .ok (.return_, 1) := by decide +kernel
set_option maxRecDepth 20000 in
theorem ggX0_blow_X1_windAtLamp : GoodIn wsX0_blow wsX1_windAtLamp := goodIn_r _ [9, 10, 11, 12, 13, 14, 15, 16, 17, 25, 26, 27, 28, 29, 30, 31, 32, 33, 34, 35, 36, 37, 38, 39, 40, 41] (by decide +kernel) (by decide +kernel)
set_option maxRecDepth 20000 in
theorem gX0_blow_X1_windAtLamp : GoodIn wsX0_blow (wsV RX0 154 RX1 yX1_windAtLamp wsX1_windAtLamp) := goodIn_app (goodIn_of _ (by decide +kernel)) ggX0_blow_X1_windAtLamp
set_option maxRecDepth 20000 in
theorem ggX0_blow_X0_putOut : GoodIn wsX0_blow wsX0_putOut := goodIn_r _ [22, 2, 23, 24, 42, 43, 44, 45, 46, 47, 48, 49, 50, 51, 52, 53, 54, 55, 56, 57, 25, 26, 27, 28, 29, 30, 31, 32, 33, 34, 35, 36, 37, 38, 39, 40, 41] (by decide +kernel) (by decide +kernel)
set_option maxRecDepth 20000 in
theorem gX0_blow_X0_putOut : GoodIn wsX0_blow (wsV RX0 88 RX0 yX0_putOut wsX0_putOut) := goodIn_app (goodIn_of _ (by decide +kernel)) ggX0_blow_X0_putOut
theorem dX0_blow_0 : decode cX0_blow 0 = .ok (.iconst 0, 1) := by decide +kernel
theorem dX0_blow_1 : decode cX0_blow 1 = .ok (.istore_n 3, 1) := by decide +kernel
theorem dX0_blow_2 : decode cX0_blow 2 = .ok (.iload_n 3, 1) := by decide +kernel
theorem dX0_blow_3 : decode cX0_blow 3 = .ok (.aload_n 1, 1) := by decide +kernel
theorem dX0_blow_4 : decode cX0_blow 4 = .ok (.getfield 85, 3) := by decide +kernel
theorem dX0_blow_7 : decode cX0_blow 7 = .ok (.if_icmp .ge 51, 3) := by decide +kernel
theorem dX0_blow_10 : decode cX0_blow 10 = .ok (.aload_n 0, 1) := by decide +kernel
theorem dX0_blow_11 : decode cX0_blow 11 = .ok (.getfield 21, 3) := by decide +kernel
theorem dX0_blow_14 : decode cX0_blow 14 = .ok (.iload_n 3, 1) := by decide +kernel
theorem dX0_blow_15 : decode cX0_blow 15 = .ok (.baload, 1) := by decide +kernel
theorem dX0_blow_16 : decode cX0_blow 16 = .ok (.ifCond .eq 36, 3) := by decide +kernel
theorem dX0_blow_19 : decode cX0_blow 19 = .ok (.aload_n 1, 1) := by decide +kernel
theorem dX0_blow_20 : decode cX0_blow 20 = .ok (.iload_n 3, 1) := by decide +kernel
theorem dX0_blow_21 : decode cX0_blow 21 = .ok (.iload_n 2, 1) := by decide +kernel
theorem dX0_blow_22 : decode cX0_blow 22 = .ok (.invokevirtual 154, 3) := by decide +kernel
theorem dX0_blow_25 : decode cX0_blow 25 = .ok (.aload_n 1, 1) := by decide +kernel
theorem dX0_blow_26 : decode cX0_blow 26 = .ok (.getfield 157, 3) := by decide +kernel
theorem dX0_blow_29 : decode cX0_blow 29 = .ok (.iload_n 3, 1) := by decide +kernel
theorem dX0_blow_30 : decode cX0_blow 30 = .ok (.iaload, 1) := by decide +kernel
theorem dX0_blow_31 : decode cX0_blow 31 = .ok (.iconst 4, 1) := by decide +kernel
theorem dX0_blow_32 : decode cX0_blow 32 = .ok (.iadd, 1) := by decide +kernel
theorem dX0_blow_33 : decode cX0_blow 33 = .ok (.if_icmp .le 19, 3) := by decide +kernel
theorem dX0_blow_36 : decode cX0_blow 36 = .ok (.aload_n 0, 1) := by decide +kernel
theorem dX0_blow_37 : decode cX0_blow 37 = .ok (.aload_n 1, 1) := by decide +kernel
theorem dX0_blow_38 : decode cX0_blow 38 = .ok (.iload_n 3, 1) := by decide +kernel
theorem dX0_blow_39 : decode cX0_blow 39 = .ok (.invokevirtual 88, 3) := by decide +kernel
theorem dX0_blow_42 : decode cX0_blow 42 = .ok (.aload_n 0, 1) := by decide +kernel
theorem dX0_blow_43 : decode cX0_blow 43 = .ok (.getfield 28, 3) := by decide +kernel
theorem dX0_blow_46 : decode cX0_blow 46 = .ok (.iload_n 3, 1) := by decide +kernel
theorem dX0_blow_47 : decode cX0_blow 47 = .ok (.dup2, 1) := by decide +kernel
theorem dX0_blow_48 : decode cX0_blow 48 = .ok (.iaload, 1) := by decide +kernel
theorem dX0_blow_49 : decode cX0_blow 49 = .ok (.iconst 1, 1) := by decide +kernel
theorem dX0_blow_50 : decode cX0_blow 50 = .ok (.iadd, 1) := by decide +kernel
theorem dX0_blow_51 : decode cX0_blow 51 = .ok (.iastore, 1) := by decide +kernel
theorem dX0_blow_52 : decode cX0_blow 52 = .ok (.iinc 3 1, 3) := by decide +kernel
theorem dX0_blow_55 : decode cX0_blow 55 = .ok (.goto (-53), 3) := by decide +kernel
theorem dX0_blow_58 : decode cX0_blow 58 = .ok (.return_, 1) := by decide +kernel
theorem dX0_putOut_0 : decode cX0_putOut 0 = .ok (.aload_n 0, 1) := by decide +kernel
theorem dX0_putOut_1 : decode cX0_putOut 1 = .ok (.getfield 21, 3) := by decide +kernel
theorem dX0_putOut_4 : decode cX0_putOut 4 = .ok (.iload_n 2, 1) := by decide +kernel
theorem dX0_putOut_5 : decode cX0_putOut 5 = .ok (.iconst 0, 1) := by decide +kernel
theorem dX0_putOut_6 : decode cX0_putOut 6 = .ok (.bastore, 1) := by decide +kernel
theorem dX0_putOut_7 : decode cX0_putOut 7 = .ok (.aload_n 0, 1) := by decide +kernel
theorem dX0_putOut_8 : decode cX0_putOut 8 = .ok (.getfield 9, 3) := by decide +kernel
theorem dX0_putOut_11 : decode cX0_putOut 11 = .ok (.aload_n 1, 1) := by decide +kernel
theorem dX0_putOut_12 : decode cX0_putOut 12 = .ok (.getfield 148, 3) := by decide +kernel
theorem dX0_putOut_15 : decode cX0_putOut 15 = .ok (.iload_n 2, 1) := by decide +kernel
theorem dX0_putOut_16 : decode cX0_putOut 16 = .ok (.iaload, 1) := by decide +kernel
theorem dX0_putOut_17 : decode cX0_putOut 17 = .ok (.dup2, 1) := by decide +kernel
theorem dX0_putOut_18 : decode cX0_putOut 18 = .ok (.iaload, 1) := by decide +kernel
theorem dX0_putOut_19 : decode cX0_putOut 19 = .ok (.iconst 1, 1) := by decide +kernel
theorem dX0_putOut_20 : decode cX0_putOut 20 = .ok (.isub, 1) := by decide +kernel
theorem dX0_putOut_21 : decode cX0_putOut 21 = .ok (.iastore, 1) := by decide +kernel
theorem dX0_putOut_22 : decode cX0_putOut 22 = .ok (.return_, 1) := by decide +kernel
theorem dX1_init_0 : decode cX1_init 0 = .ok (.aload_n 0, 1) := by decide +kernel
theorem dX1_init_1 : decode cX1_init 1 = .ok (.invokespecial 3, 3) := by decide +kernel
theorem dX1_init_4 : decode cX1_init 4 = .ok (.aload_n 0, 1) := by decide +kernel
theorem dX1_init_5 : decode cX1_init 5 = .ok (.bipush 12, 2) := by decide +kernel
theorem dX1_init_7 : decode cX1_init 7 = .ok (.newarray .int, 2) := by decide +kernel
theorem dX1_init_9 : decode cX1_init 9 = .ok (.putfield 9, 3) := by decide +kernel
theorem dX1_init_12 : decode cX1_init 12 = .ok (.aload_n 0, 1) := by decide +kernel
theorem dX1_init_13 : decode cX1_init 13 = .ok (.bipush 12, 2) := by decide +kernel
theorem dX1_init_15 : decode cX1_init 15 = .ok (.bipush 12, 2) := by decide +kernel
theorem dX1_init_17 : decode cX1_init 17 = .ok (.multianewarray 15 2, 4) := by decide +kernel
theorem dX1_init_21 : decode cX1_init 21 = .ok (.putfield 17, 3) := by decide +kernel
theorem dX1_init_24 : decode cX1_init 24 = .ok (.aload_n 0, 1) := by decide +kernel
theorem dX1_init_25 : decode cX1_init 25 = .ok (.bipush 18, 2) := by decide +kernel
theorem dX1_init_27 : decode cX1_init 27 = .ok (.newarray .int, 2) := by decide +kernel
theorem dX1_init_29 : decode cX1_init 29 = .ok (.putfield 20, 3) := by decide +kernel
theorem dX1_init_32 : decode cX1_init 32 = .ok (.aload_n 0, 1) := by decide +kernel
theorem dX1_init_33 : decode cX1_init 33 = .ok (.bipush 18, 2) := by decide +kernel
theorem dX1_init_35 : decode cX1_init 35 = .ok (.newarray .int, 2) := by decide +kernel
theorem dX1_init_37 : decode cX1_init 37 = .ok (.putfield 23, 3) := by decide +kernel
theorem dX1_init_40 : decode cX1_init 40 = .ok (.aload_n 0, 1) := by decide +kernel
theorem dX1_init_41 : decode cX1_init 41 = .ok (.bipush 18, 2) := by decide +kernel
theorem dX1_init_43 : decode cX1_init 43 = .ok (.newarray .int, 2) := by decide +kernel
theorem dX1_init_45 : decode cX1_init 45 = .ok (.putfield 26, 3) := by decide +kernel
theorem dX1_init_48 : decode cX1_init 48 = .ok (.aload_n 0, 1) := by decide +kernel
theorem dX1_init_49 : decode cX1_init 49 = .ok (.bipush 20, 2) := by decide +kernel
theorem dX1_init_51 : decode cX1_init 51 = .ok (.newarray .int, 2) := by decide +kernel
theorem dX1_init_53 : decode cX1_init 53 = .ok (.putfield 29, 3) := by decide +kernel
theorem dX1_init_56 : decode cX1_init 56 = .ok (.aload_n 0, 1) := by decide +kernel
theorem dX1_init_57 : decode cX1_init 57 = .ok (.bipush 20, 2) := by decide +kernel
theorem dX1_init_59 : decode cX1_init 59 = .ok (.newarray .int, 2) := by decide +kernel
theorem dX1_init_61 : decode cX1_init 61 = .ok (.putfield 32, 3) := by decide +kernel
theorem dX1_init_64 : decode cX1_init 64 = .ok (.aload_n 0, 1) := by decide +kernel
theorem dX1_init_65 : decode cX1_init 65 = .ok (.bipush 20, 2) := by decide +kernel
theorem dX1_init_67 : decode cX1_init 67 = .ok (.newarray .int, 2) := by decide +kernel
theorem dX1_init_69 : decode cX1_init 69 = .ok (.putfield 35, 3) := by decide +kernel
theorem dX1_init_72 : decode cX1_init 72 = .ok (.aload_n 0, 1) := by decide +kernel
theorem dX1_init_73 : decode cX1_init 73 = .ok (.bipush 10, 2) := by decide +kernel
theorem dX1_init_75 : decode cX1_init 75 = .ok (.newarray .int, 2) := by decide +kernel
theorem dX1_init_77 : decode cX1_init 77 = .ok (.putfield 38, 3) := by decide +kernel
theorem dX1_init_80 : decode cX1_init 80 = .ok (.aload_n 0, 1) := by decide +kernel
theorem dX1_init_81 : decode cX1_init 81 = .ok (.iconst 4, 1) := by decide +kernel
theorem dX1_init_82 : decode cX1_init 82 = .ok (.newarray .int, 2) := by decide +kernel
theorem dX1_init_84 : decode cX1_init 84 = .ok (.putfield 41, 3) := by decide +kernel
theorem dX1_init_87 : decode cX1_init 87 = .ok (.aload_n 0, 1) := by decide +kernel
theorem dX1_init_88 : decode cX1_init 88 = .ok (.iconst 4, 1) := by decide +kernel
theorem dX1_init_89 : decode cX1_init 89 = .ok (.newarray .int, 2) := by decide +kernel
theorem dX1_init_91 : decode cX1_init 91 = .ok (.putfield 44, 3) := by decide +kernel
theorem dX1_init_94 : decode cX1_init 94 = .ok (.aload_n 0, 1) := by decide +kernel
theorem dX1_init_95 : decode cX1_init 95 = .ok (.iconst 4, 1) := by decide +kernel
theorem dX1_init_96 : decode cX1_init 96 = .ok (.newarray .int, 2) := by decide +kernel
theorem dX1_init_98 : decode cX1_init 98 = .ok (.putfield 47, 3) := by decide +kernel
theorem dX1_init_101 : decode cX1_init 101 = .ok (.aload_n 0, 1) := by decide +kernel
theorem dX1_init_102 : decode cX1_init 102 = .ok (.iconst 4, 1) := by decide +kernel
theorem dX1_init_103 : decode cX1_init 103 = .ok (.bipush 10, 2) := by decide +kernel
theorem dX1_init_105 : decode cX1_init 105 = .ok (.multianewarray 15 2, 4) := by decide +kernel
theorem dX1_init_109 : decode cX1_init 109 = .ok (.putfield 50, 3) := by decide +kernel
theorem dX1_init_112 : decode cX1_init 112 = .ok (.return_, 1) := by decide +kernel
theorem dX1_addCorner_0 : decode cX1_addCorner 0 = .ok (.aload_n 0, 1) := by decide +kernel
theorem dX1_addCorner_1 : decode cX1_addCorner 1 = .ok (.getfield 53, 3) := by decide +kernel
theorem dX1_addCorner_4 : decode cX1_addCorner 4 = .ok (.istore_n 2, 1) := by decide +kernel
theorem dX1_addCorner_5 : decode cX1_addCorner 5 = .ok (.aload_n 0, 1) := by decide +kernel
theorem dX1_addCorner_6 : decode cX1_addCorner 6 = .ok (.getfield 9, 3) := by decide +kernel
theorem dX1_addCorner_9 : decode cX1_addCorner 9 = .ok (.iload_n 2, 1) := by decide +kernel
theorem dX1_addCorner_10 : decode cX1_addCorner 10 = .ok (.iload_n 1, 1) := by decide +kernel
theorem dX1_addCorner_11 : decode cX1_addCorner 11 = .ok (.iastore, 1) := by decide +kernel
theorem dX1_addCorner_12 : decode cX1_addCorner 12 = .ok (.iconst 0, 1) := by decide +kernel
theorem dX1_addCorner_13 : decode cX1_addCorner 13 = .ok (.istore_n 3, 1) := by decide +kernel
theorem dX1_addCorner_14 : decode cX1_addCorner 14 = .ok (.iload_n 3, 1) := by decide +kernel
theorem dX1_addCorner_15 : decode cX1_addCorner 15 = .ok (.iload_n 2, 1) := by decide +kernel
theorem dX1_addCorner_16 : decode cX1_addCorner 16 = .ok (.if_icmp .ge 29, 3) := by decide +kernel
theorem dX1_addCorner_19 : decode cX1_addCorner 19 = .ok (.aload_n 0, 1) := by decide +kernel
theorem dX1_addCorner_20 : decode cX1_addCorner 20 = .ok (.getfield 17, 3) := by decide +kernel
theorem dX1_addCorner_23 : decode cX1_addCorner 23 = .ok (.iload_n 2, 1) := by decide +kernel
theorem dX1_addCorner_24 : decode cX1_addCorner 24 = .ok (.aaload, 1) := by decide +kernel
theorem dX1_addCorner_25 : decode cX1_addCorner 25 = .ok (.iload_n 3, 1) := by decide +kernel
theorem dX1_addCorner_26 : decode cX1_addCorner 26 = .ok (.ldc 57, 2) := by decide +kernel
theorem dX1_addCorner_28 : decode cX1_addCorner 28 = .ok (.iastore, 1) := by decide +kernel
theorem dX1_addCorner_29 : decode cX1_addCorner 29 = .ok (.aload_n 0, 1) := by decide +kernel
theorem dX1_addCorner_30 : decode cX1_addCorner 30 = .ok (.getfield 17, 3) := by decide +kernel
theorem dX1_addCorner_33 : decode cX1_addCorner 33 = .ok (.iload_n 3, 1) := by decide +kernel
theorem dX1_addCorner_34 : decode cX1_addCorner 34 = .ok (.aaload, 1) := by decide +kernel
theorem dX1_addCorner_35 : decode cX1_addCorner 35 = .ok (.iload_n 2, 1) := by decide +kernel
theorem dX1_addCorner_36 : decode cX1_addCorner 36 = .ok (.ldc 57, 2) := by decide +kernel
theorem dX1_addCorner_38 : decode cX1_addCorner 38 = .ok (.iastore, 1) := by decide +kernel
theorem dX1_addCorner_39 : decode cX1_addCorner 39 = .ok (.iinc 3 1, 3) := by decide +kernel
theorem dX1_addCorner_42 : decode cX1_addCorner 42 = .ok (.goto (-28), 3) := by decide +kernel
theorem dX1_addCorner_45 : decode cX1_addCorner 45 = .ok (.aload_n 0, 1) := by decide +kernel
theorem dX1_addCorner_46 : decode cX1_addCorner 46 = .ok (.getfield 17, 3) := by decide +kernel
theorem dX1_addCorner_49 : decode cX1_addCorner 49 = .ok (.iload_n 2, 1) := by decide +kernel
theorem dX1_addCorner_50 : decode cX1_addCorner 50 = .ok (.aaload, 1) := by decide +kernel
theorem dX1_addCorner_51 : decode cX1_addCorner 51 = .ok (.iload_n 2, 1) := by decide +kernel
theorem dX1_addCorner_52 : decode cX1_addCorner 52 = .ok (.iconst 0, 1) := by decide +kernel
theorem dX1_addCorner_53 : decode cX1_addCorner 53 = .ok (.iastore, 1) := by decide +kernel
theorem dX1_addCorner_54 : decode cX1_addCorner 54 = .ok (.aload_n 0, 1) := by decide +kernel
theorem dX1_addCorner_55 : decode cX1_addCorner 55 = .ok (.dup, 1) := by decide +kernel
theorem dX1_addCorner_56 : decode cX1_addCorner 56 = .ok (.getfield 53, 3) := by decide +kernel
theorem dX1_addCorner_59 : decode cX1_addCorner 59 = .ok (.iconst 1, 1) := by decide +kernel
theorem dX1_addCorner_60 : decode cX1_addCorner 60 = .ok (.iadd, 1) := by decide +kernel
theorem dX1_addCorner_61 : decode cX1_addCorner 61 = .ok (.putfield 53, 3) := by decide +kernel
theorem dX1_addCorner_64 : decode cX1_addCorner 64 = .ok (.iload_n 2, 1) := by decide +kernel
theorem dX1_addCorner_65 : decode cX1_addCorner 65 = .ok (.ireturn, 1) := by decide +kernel
set_option maxRecDepth 20000 in
theorem ggX1_addStreet_X1_minutesAlong : GoodIn wsX1_addStreet wsX1_minutesAlong := goodIn_r _ [9, 10, 11, 12, 13, 14, 24, 25, 26, 27, 28, 29, 30, 31, 32, 33, 34, 35, 36, 37, 38, 39, 40] (by decide +kernel) (by decide +kernel)
set_option maxRecDepth 20000 in
theorem gX1_addStreet_X1_minutesAlong : GoodIn wsX1_addStreet (wsV RX1 61 RX1 yX1_minutesAlong wsX1_minutesAlong) := goodIn_app (goodIn_of _ (by decide +kernel)) ggX1_addStreet_X1_minutesAlong
set_option maxRecDepth 20000 in
theorem ggX1_addStreet_X1_shortenWays : GoodIn wsX1_addStreet wsX1_shortenWays := goodIn_r _ [18, 19, 20, 21, 22, 13, 23, 24, 25, 26, 27, 28, 29, 30, 31, 32, 33, 34, 35, 36, 37, 38, 39, 40] (by decide +kernel) (by decide +kernel)
set_option maxRecDepth 20000 in
theorem gX1_addStreet_X1_shortenWays : GoodIn wsX1_addStreet (wsV RX1 65 RX1 yX1_shortenWays wsX1_shortenWays) := goodIn_app (goodIn_of _ (by decide +kernel)) ggX1_addStreet_X1_shortenWays
theorem dX1_addStreet_0 : decode cX1_addStreet 0 = .ok (.aload_n 0, 1) := by decide +kernel
theorem dX1_addStreet_1 : decode cX1_addStreet 1 = .ok (.getfield 58, 3) := by decide +kernel
theorem dX1_addStreet_4 : decode cX1_addStreet 4 = .ok (.istore 4, 2) := by decide +kernel
theorem dX1_addStreet_6 : decode cX1_addStreet 6 = .ok (.aload_n 0, 1) := by decide +kernel
theorem dX1_addStreet_7 : decode cX1_addStreet 7 = .ok (.getfield 20, 3) := by decide +kernel
theorem dX1_addStreet_10 : decode cX1_addStreet 10 = .ok (.iload 4, 2) := by decide +kernel
theorem dX1_addStreet_12 : decode cX1_addStreet 12 = .ok (.iload_n 1, 1) := by decide +kernel
theorem dX1_addStreet_13 : decode cX1_addStreet 13 = .ok (.iastore, 1) := by decide +kernel
theorem dX1_addStreet_14 : decode cX1_addStreet 14 = .ok (.aload_n 0, 1) := by decide +kernel
theorem dX1_addStreet_15 : decode cX1_addStreet 15 = .ok (.getfield 23, 3) := by decide +kernel
theorem dX1_addStreet_18 : decode cX1_addStreet 18 = .ok (.iload 4, 2) := by decide +kernel
theorem dX1_addStreet_20 : decode cX1_addStreet 20 = .ok (.iload_n 2, 1) := by decide +kernel
theorem dX1_addStreet_21 : decode cX1_addStreet 21 = .ok (.iastore, 1) := by decide +kernel
theorem dX1_addStreet_22 : decode cX1_addStreet 22 = .ok (.aload_n 0, 1) := by decide +kernel
theorem dX1_addStreet_23 : decode cX1_addStreet 23 = .ok (.getfield 26, 3) := by decide +kernel
theorem dX1_addStreet_26 : decode cX1_addStreet 26 = .ok (.iload 4, 2) := by decide +kernel
theorem dX1_addStreet_28 : decode cX1_addStreet 28 = .ok (.iload_n 3, 1) := by decide +kernel
theorem dX1_addStreet_29 : decode cX1_addStreet 29 = .ok (.iastore, 1) := by decide +kernel
theorem dX1_addStreet_30 : decode cX1_addStreet 30 = .ok (.aload_n 0, 1) := by decide +kernel
theorem dX1_addStreet_31 : decode cX1_addStreet 31 = .ok (.dup, 1) := by decide +kernel
theorem dX1_addStreet_32 : decode cX1_addStreet 32 = .ok (.getfield 58, 3) := by decide +kernel
theorem dX1_addStreet_35 : decode cX1_addStreet 35 = .ok (.iconst 1, 1) := by decide +kernel
theorem dX1_addStreet_36 : decode cX1_addStreet 36 = .ok (.iadd, 1) := by decide +kernel
theorem dX1_addStreet_37 : decode cX1_addStreet 37 = .ok (.putfield 58, 3) := by decide +kernel
theorem dX1_addStreet_40 : decode cX1_addStreet 40 = .ok (.aload_n 0, 1) := by decide +kernel
theorem dX1_addStreet_41 : decode cX1_addStreet 41 = .ok (.iload_n 1, 1) := by decide +kernel
theorem dX1_addStreet_42 : decode cX1_addStreet 42 = .ok (.iload_n 2, 1) := by decide +kernel
theorem dX1_addStreet_43 : decode cX1_addStreet 43 = .ok (.aload_n 0, 1) := by decide +kernel
theorem dX1_addStreet_44 : decode cX1_addStreet 44 = .ok (.iload_n 1, 1) := by decide +kernel
theorem dX1_addStreet_45 : decode cX1_addStreet 45 = .ok (.iload_n 2, 1) := by decide +kernel
theorem dX1_addStreet_46 : decode cX1_addStreet 46 = .ok (.iload_n 3, 1) := by decide +kernel
theorem dX1_addStreet_47 : decode cX1_addStreet 47 = .ok (.invokevirtual 61, 3) := by decide +kernel
theorem dX1_addStreet_50 : decode cX1_addStreet 50 = .ok (.invokevirtual 65, 3) := by decide +kernel
theorem dX1_addStreet_53 : decode cX1_addStreet 53 = .ok (.aload_n 0, 1) := by decide +kernel
theorem dX1_addStreet_54 : decode cX1_addStreet 54 = .ok (.iload_n 2, 1) := by decide +kernel
theorem dX1_addStreet_55 : decode cX1_addStreet 55 = .ok (.iload_n 1, 1) := by decide +kernel
theorem dX1_addStreet_56 : decode cX1_addStreet 56 = .ok (.aload_n 0, 1) := by decide +kernel
theorem dX1_addStreet_57 : decode cX1_addStreet 57 = .ok (.iload_n 2, 1) := by decide +kernel
theorem dX1_addStreet_58 : decode cX1_addStreet 58 = .ok (.iload_n 1, 1) := by decide +kernel
theorem dX1_addStreet_59 : decode cX1_addStreet 59 = .ok (.iload_n 3, 1) := by decide +kernel
theorem dX1_addStreet_60 : decode cX1_addStreet 60 = .ok (.invokevirtual 61, 3) := by decide +kernel
theorem dX1_addStreet_63 : decode cX1_addStreet 63 = .ok (.invokevirtual 65, 3) := by decide +kernel
theorem dX1_addStreet_66 : decode cX1_addStreet 66 = .ok (.iload 4, 2) := by decide +kernel
theorem dX1_addStreet_68 : decode cX1_addStreet 68 = .ok (.ireturn, 1) := by decide +kernel
theorem dX1_addLamp_0 : decode cX1_addLamp 0 = .ok (.aload_n 0, 1) := by decide +kernel
theorem dX1_addLamp_1 : decode cX1_addLamp 1 = .ok (.getfield 69, 3) := by decide +kernel
theorem dX1_addLamp_4 : decode cX1_addLamp 4 = .ok (.istore_n 3, 1) := by decide +kernel
theorem dX1_addLamp_5 : decode cX1_addLamp 5 = .ok (.aload_n 0, 1) := by decide +kernel
theorem dX1_addLamp_6 : decode cX1_addLamp 6 = .ok (.getfield 29, 3) := by decide +kernel
theorem dX1_addLamp_9 : decode cX1_addLamp 9 = .ok (.iload_n 3, 1) := by decide +kernel
theorem dX1_addLamp_10 : decode cX1_addLamp 10 = .ok (.iload_n 1, 1) := by decide +kernel
theorem dX1_addLamp_11 : decode cX1_addLamp 11 = .ok (.iastore, 1) := by decide +kernel
theorem dX1_addLamp_12 : decode cX1_addLamp 12 = .ok (.aload_n 0, 1) := by decide +kernel
theorem dX1_addLamp_13 : decode cX1_addLamp 13 = .ok (.getfield 32, 3) := by decide +kernel
theorem dX1_addLamp_16 : decode cX1_addLamp 16 = .ok (.iload_n 3, 1) := by decide +kernel
theorem dX1_addLamp_17 : decode cX1_addLamp 17 = .ok (.iload_n 2, 1) := by decide +kernel
theorem dX1_addLamp_18 : decode cX1_addLamp 18 = .ok (.iastore, 1) := by decide +kernel
theorem dX1_addLamp_19 : decode cX1_addLamp 19 = .ok (.aload_n 0, 1) := by decide +kernel
theorem dX1_addLamp_20 : decode cX1_addLamp 20 = .ok (.dup, 1) := by decide +kernel
theorem dX1_addLamp_21 : decode cX1_addLamp 21 = .ok (.getfield 69, 3) := by decide +kernel
theorem dX1_addLamp_24 : decode cX1_addLamp 24 = .ok (.iconst 1, 1) := by decide +kernel
theorem dX1_addLamp_25 : decode cX1_addLamp 25 = .ok (.iadd, 1) := by decide +kernel
theorem dX1_addLamp_26 : decode cX1_addLamp 26 = .ok (.putfield 69, 3) := by decide +kernel
theorem dX1_addLamp_29 : decode cX1_addLamp 29 = .ok (.iload_n 3, 1) := by decide +kernel
theorem dX1_addLamp_30 : decode cX1_addLamp 30 = .ok (.ireturn, 1) := by decide +kernel
theorem dX1_addLighter_0 : decode cX1_addLighter 0 = .ok (.aload_n 0, 1) := by decide +kernel
theorem dX1_addLighter_1 : decode cX1_addLighter 1 = .ok (.getfield 72, 3) := by decide +kernel
theorem dX1_addLighter_4 : decode cX1_addLighter 4 = .ok (.istore_n 3, 1) := by decide +kernel
theorem dX1_addLighter_5 : decode cX1_addLighter 5 = .ok (.aload_n 0, 1) := by decide +kernel
theorem dX1_addLighter_6 : decode cX1_addLighter 6 = .ok (.getfield 41, 3) := by decide +kernel
theorem dX1_addLighter_9 : decode cX1_addLighter 9 = .ok (.iload_n 3, 1) := by decide +kernel
theorem dX1_addLighter_10 : decode cX1_addLighter 10 = .ok (.iload_n 1, 1) := by decide +kernel
theorem dX1_addLighter_11 : decode cX1_addLighter 11 = .ok (.iastore, 1) := by decide +kernel
theorem dX1_addLighter_12 : decode cX1_addLighter 12 = .ok (.aload_n 0, 1) := by decide +kernel
theorem dX1_addLighter_13 : decode cX1_addLighter 13 = .ok (.getfield 44, 3) := by decide +kernel
theorem dX1_addLighter_16 : decode cX1_addLighter 16 = .ok (.iload_n 3, 1) := by decide +kernel
theorem dX1_addLighter_17 : decode cX1_addLighter 17 = .ok (.iload_n 2, 1) := by decide +kernel
theorem dX1_addLighter_18 : decode cX1_addLighter 18 = .ok (.iastore, 1) := by decide +kernel
theorem dX1_addLighter_19 : decode cX1_addLighter 19 = .ok (.aload_n 0, 1) := by decide +kernel
theorem dX1_addLighter_20 : decode cX1_addLighter 20 = .ok (.dup, 1) := by decide +kernel
theorem dX1_addLighter_21 : decode cX1_addLighter 21 = .ok (.getfield 72, 3) := by decide +kernel
theorem dX1_addLighter_24 : decode cX1_addLighter 24 = .ok (.iconst 1, 1) := by decide +kernel
theorem dX1_addLighter_25 : decode cX1_addLighter 25 = .ok (.iadd, 1) := by decide +kernel
theorem dX1_addLighter_26 : decode cX1_addLighter 26 = .ok (.putfield 72, 3) := by decide +kernel
theorem dX1_addLighter_29 : decode cX1_addLighter 29 = .ok (.iload_n 3, 1) := by decide +kernel
theorem dX1_addLighter_30 : decode cX1_addLighter 30 = .ok (.ireturn, 1) := by decide +kernel
theorem dX1_addToRound_0 : decode cX1_addToRound 0 = .ok (.aload_n 0, 1) := by decide +kernel
theorem dX1_addToRound_1 : decode cX1_addToRound 1 = .ok (.getfield 50, 3) := by decide +kernel
theorem dX1_addToRound_4 : decode cX1_addToRound 4 = .ok (.iload_n 1, 1) := by decide +kernel
theorem dX1_addToRound_5 : decode cX1_addToRound 5 = .ok (.aaload, 1) := by decide +kernel
theorem dX1_addToRound_6 : decode cX1_addToRound 6 = .ok (.aload_n 0, 1) := by decide +kernel
theorem dX1_addToRound_7 : decode cX1_addToRound 7 = .ok (.getfield 47, 3) := by decide +kernel
theorem dX1_addToRound_10 : decode cX1_addToRound 10 = .ok (.iload_n 1, 1) := by decide +kernel
theorem dX1_addToRound_11 : decode cX1_addToRound 11 = .ok (.iaload, 1) := by decide +kernel
theorem dX1_addToRound_12 : decode cX1_addToRound 12 = .ok (.iload_n 2, 1) := by decide +kernel
theorem dX1_addToRound_13 : decode cX1_addToRound 13 = .ok (.iastore, 1) := by decide +kernel
theorem dX1_addToRound_14 : decode cX1_addToRound 14 = .ok (.aload_n 0, 1) := by decide +kernel
theorem dX1_addToRound_15 : decode cX1_addToRound 15 = .ok (.getfield 47, 3) := by decide +kernel
theorem dX1_addToRound_18 : decode cX1_addToRound 18 = .ok (.iload_n 1, 1) := by decide +kernel
theorem dX1_addToRound_19 : decode cX1_addToRound 19 = .ok (.dup2, 1) := by decide +kernel
theorem dX1_addToRound_20 : decode cX1_addToRound 20 = .ok (.iaload, 1) := by decide +kernel
theorem dX1_addToRound_21 : decode cX1_addToRound 21 = .ok (.iconst 1, 1) := by decide +kernel
theorem dX1_addToRound_22 : decode cX1_addToRound 22 = .ok (.iadd, 1) := by decide +kernel
theorem dX1_addToRound_23 : decode cX1_addToRound 23 = .ok (.iastore, 1) := by decide +kernel
theorem dX1_addToRound_24 : decode cX1_addToRound 24 = .ok (.aload_n 0, 1) := by decide +kernel
theorem dX1_addToRound_25 : decode cX1_addToRound 25 = .ok (.getfield 47, 3) := by decide +kernel
theorem dX1_addToRound_28 : decode cX1_addToRound 28 = .ok (.iload_n 1, 1) := by decide +kernel
theorem dX1_addToRound_29 : decode cX1_addToRound 29 = .ok (.iaload, 1) := by decide +kernel
theorem dX1_addToRound_30 : decode cX1_addToRound 30 = .ok (.ireturn, 1) := by decide +kernel
theorem dX1_isInRound_0 : decode cX1_isInRound 0 = .ok (.iconst 0, 1) := by decide +kernel
theorem dX1_isInRound_1 : decode cX1_isInRound 1 = .ok (.istore_n 3, 1) := by decide +kernel
theorem dX1_isInRound_2 : decode cX1_isInRound 2 = .ok (.iload_n 3, 1) := by decide +kernel
theorem dX1_isInRound_3 : decode cX1_isInRound 3 = .ok (.aload_n 0, 1) := by decide +kernel
theorem dX1_isInRound_4 : decode cX1_isInRound 4 = .ok (.getfield 47, 3) := by decide +kernel
theorem dX1_isInRound_7 : decode cX1_isInRound 7 = .ok (.iload_n 1, 1) := by decide +kernel
theorem dX1_isInRound_8 : decode cX1_isInRound 8 = .ok (.iaload, 1) := by decide +kernel
theorem dX1_isInRound_9 : decode cX1_isInRound 9 = .ok (.if_icmp .ge 23, 3) := by decide +kernel
theorem dX1_isInRound_12 : decode cX1_isInRound 12 = .ok (.aload_n 0, 1) := by decide +kernel
theorem dX1_isInRound_13 : decode cX1_isInRound 13 = .ok (.getfield 50, 3) := by decide +kernel
theorem dX1_isInRound_16 : decode cX1_isInRound 16 = .ok (.iload_n 1, 1) := by decide +kernel
theorem dX1_isInRound_17 : decode cX1_isInRound 17 = .ok (.aaload, 1) := by decide +kernel
theorem dX1_isInRound_18 : decode cX1_isInRound 18 = .ok (.iload_n 3, 1) := by decide +kernel
theorem dX1_isInRound_19 : decode cX1_isInRound 19 = .ok (.iaload, 1) := by decide +kernel
theorem dX1_isInRound_20 : decode cX1_isInRound 20 = .ok (.iload_n 2, 1) := by decide +kernel
theorem dX1_isInRound_21 : decode cX1_isInRound 21 = .ok (.if_icmp .ne 5, 3) := by decide +kernel
theorem dX1_isInRound_24 : decode cX1_isInRound 24 = .ok (.iconst 1, 1) := by decide +kernel
theorem dX1_isInRound_25 : decode cX1_isInRound 25 = .ok (.ireturn, 1) := by decide +kernel
theorem dX1_isInRound_26 : decode cX1_isInRound 26 = .ok (.iinc 3 1, 3) := by decide +kernel
theorem dX1_isInRound_29 : decode cX1_isInRound 29 = .ok (.goto (-27), 3) := by decide +kernel
theorem dX1_isInRound_32 : decode cX1_isInRound 32 = .ok (.iconst 0, 1) := by decide +kernel
theorem dX1_isInRound_33 : decode cX1_isInRound 33 = .ok (.ireturn, 1) := by decide +kernel
theorem dX1_minutesAlong_0 : decode cX1_minutesAlong 0 = .ok (.iload_n 3, 1) := by decide +kernel
theorem dX1_minutesAlong_1 : decode cX1_minutesAlong 1 = .ok (.iconst 0, 1) := by decide +kernel
theorem dX1_minutesAlong_2 : decode cX1_minutesAlong 2 = .ok (.aload_n 0, 1) := by decide +kernel
theorem dX1_minutesAlong_3 : decode cX1_minutesAlong 3 = .ok (.getfield 9, 3) := by decide +kernel
theorem dX1_minutesAlong_6 : decode cX1_minutesAlong 6 = .ok (.iload_n 2, 1) := by decide +kernel
theorem dX1_minutesAlong_7 : decode cX1_minutesAlong 7 = .ok (.iaload, 1) := by decide +kernel
theorem dX1_minutesAlong_8 : decode cX1_minutesAlong 8 = .ok (.aload_n 0, 1) := by decide +kernel
theorem dX1_minutesAlong_9 : decode cX1_minutesAlong 9 = .ok (.getfield 9, 3) := by decide +kernel
theorem dX1_minutesAlong_12 : decode cX1_minutesAlong 12 = .ok (.iload_n 1, 1) := by decide +kernel
theorem dX1_minutesAlong_13 : decode cX1_minutesAlong 13 = .ok (.iaload, 1) := by decide +kernel
theorem dX1_minutesAlong_14 : decode cX1_minutesAlong 14 = .ok (.isub, 1) := by decide +kernel
theorem dX1_minutesAlong_15 : decode cX1_minutesAlong 15 = .ok (.invokestatic 75, 3) := by decide +kernel
theorem dX1_minutesAlong_18 : decode cX1_minutesAlong 18 = .ok (.iconst 2, 1) := by decide +kernel
theorem dX1_minutesAlong_19 : decode cX1_minutesAlong 19 = .ok (.idiv, 1) := by decide +kernel
theorem dX1_minutesAlong_20 : decode cX1_minutesAlong 20 = .ok (.iadd, 1) := by decide +kernel
theorem dX1_minutesAlong_21 : decode cX1_minutesAlong 21 = .ok (.ireturn, 1) := by decide +kernel
theorem dX1_shortenWays_0 : decode cX1_shortenWays 0 = .ok (.iconst 0, 1) := by decide +kernel
theorem dX1_shortenWays_1 : decode cX1_shortenWays 1 = .ok (.istore 4, 2) := by decide +kernel
theorem dX1_shortenWays_3 : decode cX1_shortenWays 3 = .ok (.iload 4, 2) := by decide +kernel
theorem dX1_shortenWays_5 : decode cX1_shortenWays 5 = .ok (.aload_n 0, 1) := by decide +kernel
theorem dX1_shortenWays_6 : decode cX1_shortenWays 6 = .ok (.getfield 53, 3) := by decide +kernel
theorem dX1_shortenWays_9 : decode cX1_shortenWays 9 = .ok (.if_icmp .ge 75, 3) := by decide +kernel
theorem dX1_shortenWays_12 : decode cX1_shortenWays 12 = .ok (.iconst 0, 1) := by decide +kernel
theorem dX1_shortenWays_13 : decode cX1_shortenWays 13 = .ok (.istore 5, 2) := by decide +kernel
theorem dX1_shortenWays_15 : decode cX1_shortenWays 15 = .ok (.iload 5, 2) := by decide +kernel
theorem dX1_shortenWays_17 : decode cX1_shortenWays 17 = .ok (.aload_n 0, 1) := by decide +kernel
theorem dX1_shortenWays_18 : decode cX1_shortenWays 18 = .ok (.getfield 53, 3) := by decide +kernel
theorem dX1_shortenWays_21 : decode cX1_shortenWays 21 = .ok (.if_icmp .ge 57, 3) := by decide +kernel
theorem dX1_shortenWays_24 : decode cX1_shortenWays 24 = .ok (.aload_n 0, 1) := by decide +kernel
theorem dX1_shortenWays_25 : decode cX1_shortenWays 25 = .ok (.getfield 17, 3) := by decide +kernel
theorem dX1_shortenWays_28 : decode cX1_shortenWays 28 = .ok (.iload 4, 2) := by decide +kernel
theorem dX1_shortenWays_30 : decode cX1_shortenWays 30 = .ok (.aaload, 1) := by decide +kernel
theorem dX1_shortenWays_31 : decode cX1_shortenWays 31 = .ok (.iload_n 1, 1) := by decide +kernel
theorem dX1_shortenWays_32 : decode cX1_shortenWays 32 = .ok (.iaload, 1) := by decide +kernel
theorem dX1_shortenWays_33 : decode cX1_shortenWays 33 = .ok (.iload_n 3, 1) := by decide +kernel
theorem dX1_shortenWays_34 : decode cX1_shortenWays 34 = .ok (.iadd, 1) := by decide +kernel
theorem dX1_shortenWays_35 : decode cX1_shortenWays 35 = .ok (.aload_n 0, 1) := by decide +kernel
theorem dX1_shortenWays_36 : decode cX1_shortenWays 36 = .ok (.getfield 17, 3) := by decide +kernel
theorem dX1_shortenWays_39 : decode cX1_shortenWays 39 = .ok (.iload_n 2, 1) := by decide +kernel
theorem dX1_shortenWays_40 : decode cX1_shortenWays 40 = .ok (.aaload, 1) := by decide +kernel
theorem dX1_shortenWays_41 : decode cX1_shortenWays 41 = .ok (.iload 5, 2) := by decide +kernel
theorem dX1_shortenWays_43 : decode cX1_shortenWays 43 = .ok (.iaload, 1) := by decide +kernel
theorem dX1_shortenWays_44 : decode cX1_shortenWays 44 = .ok (.iadd, 1) := by decide +kernel
theorem dX1_shortenWays_45 : decode cX1_shortenWays 45 = .ok (.istore 6, 2) := by decide +kernel
theorem dX1_shortenWays_47 : decode cX1_shortenWays 47 = .ok (.aload_n 0, 1) := by decide +kernel
theorem dX1_shortenWays_48 : decode cX1_shortenWays 48 = .ok (.getfield 17, 3) := by decide +kernel
theorem dX1_shortenWays_51 : decode cX1_shortenWays 51 = .ok (.iload 4, 2) := by decide +kernel
theorem dX1_shortenWays_53 : decode cX1_shortenWays 53 = .ok (.aaload, 1) := by decide +kernel
theorem dX1_shortenWays_54 : decode cX1_shortenWays 54 = .ok (.iload 5, 2) := by decide +kernel
theorem dX1_shortenWays_56 : decode cX1_shortenWays 56 = .ok (.aload_n 0, 1) := by decide +kernel
theorem dX1_shortenWays_57 : decode cX1_shortenWays 57 = .ok (.getfield 17, 3) := by decide +kernel
theorem dX1_shortenWays_60 : decode cX1_shortenWays 60 = .ok (.iload 4, 2) := by decide +kernel
theorem dX1_shortenWays_62 : decode cX1_shortenWays 62 = .ok (.aaload, 1) := by decide +kernel
theorem dX1_shortenWays_63 : decode cX1_shortenWays 63 = .ok (.iload 5, 2) := by decide +kernel
theorem dX1_shortenWays_65 : decode cX1_shortenWays 65 = .ok (.iaload, 1) := by decide +kernel
theorem dX1_shortenWays_66 : decode cX1_shortenWays 66 = .ok (.iload 6, 2) := by decide +kernel
theorem dX1_shortenWays_68 : decode cX1_shortenWays 68 = .ok (.invokestatic 81, 3) := by decide +kernel
theorem dX1_shortenWays_71 : decode cX1_shortenWays 71 = .ok (.iastore, 1) := by decide +kernel
theorem dX1_shortenWays_72 : decode cX1_shortenWays 72 = .ok (.iinc 5 1, 3) := by decide +kernel
theorem dX1_shortenWays_75 : decode cX1_shortenWays 75 = .ok (.goto (-60), 3) := by decide +kernel
theorem dX1_shortenWays_78 : decode cX1_shortenWays 78 = .ok (.iinc 4 1, 3) := by decide +kernel
theorem dX1_shortenWays_81 : decode cX1_shortenWays 81 = .ok (.goto (-78), 3) := by decide +kernel
theorem dX1_shortenWays_84 : decode cX1_shortenWays 84 = .ok (.return_, 1) := by decide +kernel
theorem dX1_nearerEnd_0 : decode cX1_nearerEnd 0 = .ok (.aload_n 0, 1) := by decide +kernel
theorem dX1_nearerEnd_1 : decode cX1_nearerEnd 1 = .ok (.getfield 29, 3) := by decide +kernel
theorem dX1_nearerEnd_4 : decode cX1_nearerEnd 4 = .ok (.iload_n 2, 1) := by decide +kernel
theorem dX1_nearerEnd_5 : decode cX1_nearerEnd 5 = .ok (.iaload, 1) := by decide +kernel
theorem dX1_nearerEnd_6 : decode cX1_nearerEnd 6 = .ok (.istore_n 3, 1) := by decide +kernel
theorem dX1_nearerEnd_7 : decode cX1_nearerEnd 7 = .ok (.aload_n 0, 1) := by decide +kernel
theorem dX1_nearerEnd_8 : decode cX1_nearerEnd 8 = .ok (.getfield 20, 3) := by decide +kernel
theorem dX1_nearerEnd_11 : decode cX1_nearerEnd 11 = .ok (.iload_n 3, 1) := by decide +kernel
theorem dX1_nearerEnd_12 : decode cX1_nearerEnd 12 = .ok (.iaload, 1) := by decide +kernel
theorem dX1_nearerEnd_13 : decode cX1_nearerEnd 13 = .ok (.istore 4, 2) := by decide +kernel
theorem dX1_nearerEnd_15 : decode cX1_nearerEnd 15 = .ok (.aload_n 0, 1) := by decide +kernel
theorem dX1_nearerEnd_16 : decode cX1_nearerEnd 16 = .ok (.getfield 23, 3) := by decide +kernel
theorem dX1_nearerEnd_19 : decode cX1_nearerEnd 19 = .ok (.iload_n 3, 1) := by decide +kernel
theorem dX1_nearerEnd_20 : decode cX1_nearerEnd 20 = .ok (.iaload, 1) := by decide +kernel
theorem dX1_nearerEnd_21 : decode cX1_nearerEnd 21 = .ok (.istore 5, 2) := by decide +kernel
theorem dX1_nearerEnd_23 : decode cX1_nearerEnd 23 = .ok (.aload_n 0, 1) := by decide +kernel
theorem dX1_nearerEnd_24 : decode cX1_nearerEnd 24 = .ok (.getfield 17, 3) := by decide +kernel
theorem dX1_nearerEnd_27 : decode cX1_nearerEnd 27 = .ok (.iload_n 1, 1) := by decide +kernel
theorem dX1_nearerEnd_28 : decode cX1_nearerEnd 28 = .ok (.aaload, 1) := by decide +kernel
theorem dX1_nearerEnd_29 : decode cX1_nearerEnd 29 = .ok (.iload 4, 2) := by decide +kernel
theorem dX1_nearerEnd_31 : decode cX1_nearerEnd 31 = .ok (.iaload, 1) := by decide +kernel
theorem dX1_nearerEnd_32 : decode cX1_nearerEnd 32 = .ok (.aload_n 0, 1) := by decide +kernel
theorem dX1_nearerEnd_33 : decode cX1_nearerEnd 33 = .ok (.getfield 17, 3) := by decide +kernel
theorem dX1_nearerEnd_36 : decode cX1_nearerEnd 36 = .ok (.iload_n 1, 1) := by decide +kernel
theorem dX1_nearerEnd_37 : decode cX1_nearerEnd 37 = .ok (.aaload, 1) := by decide +kernel
theorem dX1_nearerEnd_38 : decode cX1_nearerEnd 38 = .ok (.iload 5, 2) := by decide +kernel
theorem dX1_nearerEnd_40 : decode cX1_nearerEnd 40 = .ok (.iaload, 1) := by decide +kernel
theorem dX1_nearerEnd_41 : decode cX1_nearerEnd 41 = .ok (.if_icmp .gt 8, 3) := by decide +kernel
theorem dX1_nearerEnd_44 : decode cX1_nearerEnd 44 = .ok (.iload 4, 2) := by decide +kernel
theorem dX1_nearerEnd_46 : decode cX1_nearerEnd 46 = .ok (.goto 5, 3) := by decide +kernel
theorem dX1_nearerEnd_49 : decode cX1_nearerEnd 49 = .ok (.iload 5, 2) := by decide +kernel
theorem dX1_nearerEnd_51 : decode cX1_nearerEnd 51 = .ok (.ireturn, 1) := by decide +kernel
set_option maxRecDepth 20000 in
theorem ggX1_canReach_X1_nearerEnd : GoodIn wsX1_canReach wsX1_nearerEnd := goodIn_r _ [9, 10, 11, 12, 3, 13, 14, 15, 16, 17, 18, 19, 20, 21, 22, 23, 24, 25, 26, 27, 28, 29] (by decide +kernel) (by decide +kernel)
set_option maxRecDepth 20000 in
theorem gX1_canReach_X1_nearerEnd : GoodIn wsX1_canReach (wsV RX1 84 RX1 yX1_nearerEnd wsX1_nearerEnd) := goodIn_app (goodIn_of _ (by decide +kernel)) ggX1_canReach_X1_nearerEnd
theorem dX1_canReach_0 : decode cX1_canReach 0 = .ok (.aload_n 0, 1) := by decide +kernel
theorem dX1_canReach_1 : decode cX1_canReach 1 = .ok (.getfield 32, 3) := by decide +kernel
theorem dX1_canReach_4 : decode cX1_canReach 4 = .ok (.iload_n 3, 1) := by decide +kernel
theorem dX1_canReach_5 : decode cX1_canReach 5 = .ok (.iaload, 1) := by decide +kernel
theorem dX1_canReach_6 : decode cX1_canReach 6 = .ok (.aload_n 0, 1) := by decide +kernel
theorem dX1_canReach_7 : decode cX1_canReach 7 = .ok (.getfield 44, 3) := by decide +kernel
theorem dX1_canReach_10 : decode cX1_canReach 10 = .ok (.iload_n 1, 1) := by decide +kernel
theorem dX1_canReach_11 : decode cX1_canReach 11 = .ok (.iaload, 1) := by decide +kernel
theorem dX1_canReach_12 : decode cX1_canReach 12 = .ok (.iconst 2, 1) := by decide +kernel
theorem dX1_canReach_13 : decode cX1_canReach 13 = .ok (.iadd, 1) := by decide +kernel
theorem dX1_canReach_14 : decode cX1_canReach 14 = .ok (.if_icmp .gt 25, 3) := by decide +kernel
theorem dX1_canReach_17 : decode cX1_canReach 17 = .ok (.aload_n 0, 1) := by decide +kernel
theorem dX1_canReach_18 : decode cX1_canReach 18 = .ok (.getfield 17, 3) := by decide +kernel
theorem dX1_canReach_21 : decode cX1_canReach 21 = .ok (.iload_n 2, 1) := by decide +kernel
theorem dX1_canReach_22 : decode cX1_canReach 22 = .ok (.aaload, 1) := by decide +kernel
theorem dX1_canReach_23 : decode cX1_canReach 23 = .ok (.aload_n 0, 1) := by decide +kernel
theorem dX1_canReach_24 : decode cX1_canReach 24 = .ok (.iload_n 2, 1) := by decide +kernel
theorem dX1_canReach_25 : decode cX1_canReach 25 = .ok (.iload_n 3, 1) := by decide +kernel
theorem dX1_canReach_26 : decode cX1_canReach 26 = .ok (.invokevirtual 84, 3) := by decide +kernel
theorem dX1_canReach_29 : decode cX1_canReach 29 = .ok (.iaload, 1) := by decide +kernel
theorem dX1_canReach_30 : decode cX1_canReach 30 = .ok (.ldc 57, 2) := by decide +kernel
theorem dX1_canReach_32 : decode cX1_canReach 32 = .ok (.if_icmp .ge 7, 3) := by decide +kernel
theorem dX1_canReach_35 : decode cX1_canReach 35 = .ok (.iconst 1, 1) := by decide +kernel
theorem dX1_canReach_36 : decode cX1_canReach 36 = .ok (.goto 4, 3) := by decide +kernel
theorem dX1_canReach_39 : decode cX1_canReach 39 = .ok (.iconst 0, 1) := by decide +kernel
theorem dX1_canReach_40 : decode cX1_canReach 40 = .ok (.ireturn, 1) := by decide +kernel
theorem dX1_windAtLamp_0 : decode cX1_windAtLamp 0 = .ok (.aload_n 0, 1) := by decide +kernel
theorem dX1_windAtLamp_1 : decode cX1_windAtLamp 1 = .ok (.getfield 29, 3) := by decide +kernel
theorem dX1_windAtLamp_4 : decode cX1_windAtLamp 4 = .ok (.iload_n 1, 1) := by decide +kernel
theorem dX1_windAtLamp_5 : decode cX1_windAtLamp 5 = .ok (.iaload, 1) := by decide +kernel
theorem dX1_windAtLamp_6 : decode cX1_windAtLamp 6 = .ok (.istore_n 3, 1) := by decide +kernel
theorem dX1_windAtLamp_7 : decode cX1_windAtLamp 7 = .ok (.iload_n 2, 1) := by decide +kernel
theorem dX1_windAtLamp_8 : decode cX1_windAtLamp 8 = .ok (.aload_n 0, 1) := by decide +kernel
theorem dX1_windAtLamp_9 : decode cX1_windAtLamp 9 = .ok (.getfield 9, 3) := by decide +kernel
theorem dX1_windAtLamp_12 : decode cX1_windAtLamp 12 = .ok (.aload_n 0, 1) := by decide +kernel
theorem dX1_windAtLamp_13 : decode cX1_windAtLamp 13 = .ok (.getfield 20, 3) := by decide +kernel
theorem dX1_windAtLamp_16 : decode cX1_windAtLamp 16 = .ok (.iload_n 3, 1) := by decide +kernel
theorem dX1_windAtLamp_17 : decode cX1_windAtLamp 17 = .ok (.iaload, 1) := by decide +kernel
theorem dX1_windAtLamp_18 : decode cX1_windAtLamp 18 = .ok (.iaload, 1) := by decide +kernel
theorem dX1_windAtLamp_19 : decode cX1_windAtLamp 19 = .ok (.aload_n 0, 1) := by decide +kernel
theorem dX1_windAtLamp_20 : decode cX1_windAtLamp 20 = .ok (.getfield 9, 3) := by decide +kernel
theorem dX1_windAtLamp_23 : decode cX1_windAtLamp 23 = .ok (.aload_n 0, 1) := by decide +kernel
theorem dX1_windAtLamp_24 : decode cX1_windAtLamp 24 = .ok (.getfield 23, 3) := by decide +kernel
theorem dX1_windAtLamp_27 : decode cX1_windAtLamp 27 = .ok (.iload_n 3, 1) := by decide +kernel
theorem dX1_windAtLamp_28 : decode cX1_windAtLamp 28 = .ok (.iaload, 1) := by decide +kernel
theorem dX1_windAtLamp_29 : decode cX1_windAtLamp 29 = .ok (.iaload, 1) := by decide +kernel
theorem dX1_windAtLamp_30 : decode cX1_windAtLamp 30 = .ok (.invokestatic 75, 3) := by decide +kernel
theorem dX1_windAtLamp_33 : decode cX1_windAtLamp 33 = .ok (.bipush 10, 2) := by decide +kernel
theorem dX1_windAtLamp_35 : decode cX1_windAtLamp 35 = .ok (.idiv, 1) := by decide +kernel
theorem dX1_windAtLamp_36 : decode cX1_windAtLamp 36 = .ok (.iadd, 1) := by decide +kernel
theorem dX1_windAtLamp_37 : decode cX1_windAtLamp 37 = .ok (.ireturn, 1) := by decide +kernel
set_option maxRecDepth 20000 in
theorem ggX2_init_X1_init : GoodIn wsX2_init wsX1_init := goodIn_r _ [16, 17, 2, 3, 13, 18, 19, 20, 21, 22, 23, 24, 25, 26, 27, 28, 29, 30, 31, 49, 50, 51, 52, 53, 54, 55, 56, 57, 58, 59, 60, 61, 62, 63, 64, 65] (by decide +kernel) (by decide +kernel)
set_option maxRecDepth 20000 in
theorem gX2_init_X1_init_n11 : GoodIn wsX2_init (wsX1_init) := ggX2_init_X1_init
set_option maxRecDepth 20000 in
theorem ggX2_init_X0_init : GoodIn wsX2_init wsX0_init := goodIn_r _ [33, 34, 2, 3, 13, 35, 36, 37, 38, 39, 40, 41, 42, 43, 44, 45, 46, 47, 48, 70, 71, 72, 73, 74, 75, 76, 77, 78, 79, 80, 81, 82, 83, 84, 85] (by decide +kernel) (by decide +kernel)
set_option maxRecDepth 20000 in
theorem gX2_init_X0_init_n18 : GoodIn wsX2_init (wsX0_init) := ggX2_init_X0_init
theorem dX2_init_0 : decode cX2_init 0 = .ok (.aload_n 0, 1) := by decide +kernel
theorem dX2_init_1 : decode cX2_init 1 = .ok (.invokespecial 3, 3) := by decide +kernel
theorem dX2_init_4 : decode cX2_init 4 = .ok (.aload_n 0, 1) := by decide +kernel
theorem dX2_init_5 : decode cX2_init 5 = .ok (.new 9, 3) := by decide +kernel
theorem dX2_init_8 : decode cX2_init 8 = .ok (.dup, 1) := by decide +kernel
theorem dX2_init_9 : decode cX2_init 9 = .ok (.invokespecial 11, 3) := by decide +kernel
theorem dX2_init_12 : decode cX2_init 12 = .ok (.putfield 12, 3) := by decide +kernel
theorem dX2_init_15 : decode cX2_init 15 = .ok (.aload_n 0, 1) := by decide +kernel
theorem dX2_init_16 : decode cX2_init 16 = .ok (.new 16, 3) := by decide +kernel
theorem dX2_init_19 : decode cX2_init 19 = .ok (.dup, 1) := by decide +kernel
theorem dX2_init_20 : decode cX2_init 20 = .ok (.invokespecial 18, 3) := by decide +kernel
theorem dX2_init_23 : decode cX2_init 23 = .ok (.putfield 19, 3) := by decide +kernel
theorem dX2_init_26 : decode cX2_init 26 = .ok (.aload_n 0, 1) := by decide +kernel
theorem dX2_init_27 : decode cX2_init 27 = .ok (.new 16, 3) := by decide +kernel
theorem dX2_init_30 : decode cX2_init 30 = .ok (.dup, 1) := by decide +kernel
theorem dX2_init_31 : decode cX2_init 31 = .ok (.invokespecial 18, 3) := by decide +kernel
theorem dX2_init_34 : decode cX2_init 34 = .ok (.putfield 23, 3) := by decide +kernel
theorem dX2_init_37 : decode cX2_init 37 = .ok (.aload_n 0, 1) := by decide +kernel
theorem dX2_init_38 : decode cX2_init 38 = .ok (.bipush 18, 2) := by decide +kernel
theorem dX2_init_40 : decode cX2_init 40 = .ok (.newarray .int, 2) := by decide +kernel
theorem dX2_init_42 : decode cX2_init 42 = .ok (.putfield 26, 3) := by decide +kernel
theorem dX2_init_45 : decode cX2_init 45 = .ok (.return_, 1) := by decide +kernel
set_option maxRecDepth 20000 in
theorem ggX2_corner_X2_requireRange : GoodIn wsX2_corner wsX2_requireRange := goodIn_ca (goodIn_r _ [6, 7, 8] (by decide +kernel) (by decide +kernel)) (goodIn_sub (fun _ h => List.mem_cons_of_mem _ (List.mem_append_left _ (List.mem_append_right _ h))) (by decide +kernel))
set_option maxRecDepth 20000 in
theorem gX2_corner_X2_requireRange : GoodIn wsX2_corner (va_wsS RX2 30 yX2_requireRange wsX2_requireRange) := goodIn_app (goodIn_of _ (by decide +kernel)) ggX2_corner_X2_requireRange
set_option maxRecDepth 20000 in
theorem ggX2_corner_X2_requireRoom : GoodIn wsX2_corner wsX2_requireRoom := goodIn_ca (goodIn_r _ [11, 12, 13] (by decide +kernel) (by decide +kernel)) (goodIn_sub (fun _ h => List.mem_cons_of_mem _ (List.mem_append_right _ h)) (by decide +kernel))
set_option maxRecDepth 20000 in
theorem gX2_corner_X2_requireRoom : GoodIn wsX2_corner (va_wsS RX2 38 yX2_requireRoom wsX2_requireRoom) := goodIn_app (goodIn_of _ (by decide +kernel)) ggX2_corner_X2_requireRoom
set_option maxRecDepth 20000 in
theorem ggX2_corner_X1_addCorner : GoodIn wsX2_corner wsX1_addCorner := goodIn_r _ [18, 19, 20, 21, 22, 27, 28, 29, 30, 31, 32, 33, 34, 35, 36, 37, 38, 39, 40, 41, 42, 43] (by decide +kernel) (by decide +kernel)
set_option maxRecDepth 20000 in
theorem gX2_corner_X1_addCorner : GoodIn wsX2_corner (wsV RX2 42 RX1 yX1_addCorner wsX1_addCorner) := goodIn_app (goodIn_of _ (by decide +kernel)) ggX2_corner_X1_addCorner
theorem dX2_corner_0 : decode cX2_corner 0 = .ok (.iload_n 1, 1) := by decide +kernel
theorem dX2_corner_1 : decode cX2_corner 1 = .ok (.iconst 0, 1) := by decide +kernel
theorem dX2_corner_2 : decode cX2_corner 2 = .ok (.bipush 30, 2) := by decide +kernel
theorem dX2_corner_4 : decode cX2_corner 4 = .ok (.invokestatic 30, 3) := by decide +kernel
theorem dX2_corner_7 : decode cX2_corner 7 = .ok (.aload_n 0, 1) := by decide +kernel
theorem dX2_corner_8 : decode cX2_corner 8 = .ok (.getfield 12, 3) := by decide +kernel
theorem dX2_corner_11 : decode cX2_corner 11 = .ok (.getfield 34, 3) := by decide +kernel
theorem dX2_corner_14 : decode cX2_corner 14 = .ok (.bipush 12, 2) := by decide +kernel
theorem dX2_corner_16 : decode cX2_corner 16 = .ok (.invokestatic 38, 3) := by decide +kernel
theorem dX2_corner_19 : decode cX2_corner 19 = .ok (.aload_n 0, 1) := by decide +kernel
theorem dX2_corner_20 : decode cX2_corner 20 = .ok (.getfield 12, 3) := by decide +kernel
theorem dX2_corner_23 : decode cX2_corner 23 = .ok (.iload_n 1, 1) := by decide +kernel
theorem dX2_corner_24 : decode cX2_corner 24 = .ok (.invokevirtual 42, 3) := by decide +kernel
theorem dX2_corner_27 : decode cX2_corner 27 = .ok (.ireturn, 1) := by decide +kernel
set_option maxRecDepth 20000 in
theorem ggX2_street_X2_requireIndex : GoodIn wsX2_street wsX2_requireIndex := goodIn_ca (goodIn_r _ [9, 10, 11] (by decide +kernel) (by decide +kernel)) (goodIn_sub (fun _ h => List.mem_cons_of_mem _ (List.mem_append_left _ (List.mem_append_right _ h))) (by decide +kernel))
set_option maxRecDepth 20000 in
theorem gX2_street_X2_requireIndex : GoodIn wsX2_street (va_wsS RX2 46 yX2_requireIndex wsX2_requireIndex) := goodIn_app (goodIn_of _ (by decide +kernel)) ggX2_street_X2_requireIndex
set_option maxRecDepth 20000 in
theorem ggX2_street_X2_requireRange : GoodIn wsX2_street wsX2_requireRange := goodIn_ca (goodIn_r _ [14, 1, 2] (by decide +kernel) (by decide +kernel)) (goodIn_sub (fun _ h => List.mem_cons_of_mem _ (List.mem_append_left _ (List.mem_append_left _ (List.mem_append_right _ h)))) (by decide +kernel))
set_option maxRecDepth 20000 in
theorem gX2_street_X2_requireRange : GoodIn wsX2_street (va_wsS RX2 30 yX2_requireRange wsX2_requireRange) := goodIn_app (goodIn_of _ (by decide +kernel)) ggX2_street_X2_requireRange
set_option maxRecDepth 20000 in
theorem ggX2_street_X2_requireRoom : GoodIn wsX2_street wsX2_requireRoom := goodIn_ca (goodIn_r _ [17, 18, 19] (by decide +kernel) (by decide +kernel)) (goodIn_sub (fun _ h => List.mem_cons_of_mem _ (List.mem_append_right _ h)) (by decide +kernel))
set_option maxRecDepth 20000 in
theorem gX2_street_X2_requireRoom : GoodIn wsX2_street (va_wsS RX2 38 yX2_requireRoom wsX2_requireRoom) := goodIn_app (goodIn_of _ (by decide +kernel)) ggX2_street_X2_requireRoom
set_option maxRecDepth 20000 in
theorem ggX2_street_X1_addStreet : GoodIn wsX2_street wsX1_addStreet := goodIn_r _ [24, 25, 26, 27, 28, 29, 30, 31, 23, 32, 33, 34, 35, 36, 37, 38, 39, 40, 41, 42, 43, 44, 45, 46, 51, 52, 53, 54, 55, 56, 57, 58, 59, 60, 61, 62, 63, 64, 65, 66, 67] (by decide +kernel) (by decide +kernel)
set_option maxRecDepth 20000 in
theorem gX2_street_X1_addStreet : GoodIn wsX2_street (wsV RX2 59 RX1 yX1_addStreet wsX1_addStreet) := goodIn_app (goodIn_of _ (by decide +kernel)) ggX2_street_X1_addStreet
theorem dX2_street_0 : decode cX2_street 0 = .ok (.iload_n 1, 1) := by decide +kernel
theorem dX2_street_1 : decode cX2_street 1 = .ok (.aload_n 0, 1) := by decide +kernel
theorem dX2_street_2 : decode cX2_street 2 = .ok (.getfield 12, 3) := by decide +kernel
theorem dX2_street_5 : decode cX2_street 5 = .ok (.getfield 34, 3) := by decide +kernel
theorem dX2_street_8 : decode cX2_street 8 = .ok (.invokestatic 46, 3) := by decide +kernel
theorem dX2_street_11 : decode cX2_street 11 = .ok (.iload_n 2, 1) := by decide +kernel
theorem dX2_street_12 : decode cX2_street 12 = .ok (.aload_n 0, 1) := by decide +kernel
theorem dX2_street_13 : decode cX2_street 13 = .ok (.getfield 12, 3) := by decide +kernel
theorem dX2_street_16 : decode cX2_street 16 = .ok (.getfield 34, 3) := by decide +kernel
theorem dX2_street_19 : decode cX2_street 19 = .ok (.invokestatic 46, 3) := by decide +kernel
theorem dX2_street_22 : decode cX2_street 22 = .ok (.iload_n 1, 1) := by decide +kernel
theorem dX2_street_23 : decode cX2_street 23 = .ok (.iload_n 2, 1) := by decide +kernel
theorem dX2_street_24 : decode cX2_street 24 = .ok (.if_icmp .ne 13, 3) := by decide +kernel
theorem dX2_street_27 : decode cX2_street 27 = .ok (.new 49, 3) := by decide +kernel
theorem dX2_street_30 : decode cX2_street 30 = .ok (.dup, 1) := by decide +kernel
theorem dX2_street_31 : decode cX2_street 31 = .ok (.ldc 51, 2) := by decide +kernel
theorem dX2_street_33 : decode cX2_street 33 = .ok (.invokespecial 53, 3) := by decide +kernel
theorem dX2_street_36 : decode cX2_street 36 = .ok (.athrow, 1) := by decide +kernel
theorem dX2_street_37 : decode cX2_street 37 = .ok (.iload_n 3, 1) := by decide +kernel
theorem dX2_street_38 : decode cX2_street 38 = .ok (.iconst 1, 1) := by decide +kernel
theorem dX2_street_39 : decode cX2_street 39 = .ok (.bipush 9, 2) := by decide +kernel
theorem dX2_street_41 : decode cX2_street 41 = .ok (.invokestatic 30, 3) := by decide +kernel
theorem dX2_street_44 : decode cX2_street 44 = .ok (.aload_n 0, 1) := by decide +kernel
theorem dX2_street_45 : decode cX2_street 45 = .ok (.getfield 12, 3) := by decide +kernel
theorem dX2_street_48 : decode cX2_street 48 = .ok (.getfield 56, 3) := by decide +kernel
theorem dX2_street_51 : decode cX2_street 51 = .ok (.bipush 18, 2) := by decide +kernel
theorem dX2_street_53 : decode cX2_street 53 = .ok (.invokestatic 38, 3) := by decide +kernel
theorem dX2_street_56 : decode cX2_street 56 = .ok (.aload_n 0, 1) := by decide +kernel
theorem dX2_street_57 : decode cX2_street 57 = .ok (.getfield 12, 3) := by decide +kernel
theorem dX2_street_60 : decode cX2_street 60 = .ok (.iload_n 1, 1) := by decide +kernel
theorem dX2_street_61 : decode cX2_street 61 = .ok (.iload_n 2, 1) := by decide +kernel
theorem dX2_street_62 : decode cX2_street 62 = .ok (.iload_n 3, 1) := by decide +kernel
theorem dX2_street_63 : decode cX2_street 63 = .ok (.invokevirtual 59, 3) := by decide +kernel
theorem dX2_street_66 : decode cX2_street 66 = .ok (.ireturn, 1) := by decide +kernel
set_option maxRecDepth 20000 in
theorem ggX2_lamp_X2_requireIndex : GoodIn wsX2_lamp wsX2_requireIndex := goodIn_ca (goodIn_r _ [7, 8, 9] (by decide +kernel) (by decide +kernel)) (goodIn_sub (fun _ h => List.mem_cons_of_mem _ (List.mem_append_left _ (List.mem_append_left _ (List.mem_append_right _ h)))) (by decide +kernel))
set_option maxRecDepth 20000 in
theorem gX2_lamp_X2_requireIndex : GoodIn wsX2_lamp (va_wsS RX2 46 yX2_requireIndex wsX2_requireIndex) := goodIn_app (goodIn_of _ (by decide +kernel)) ggX2_lamp_X2_requireIndex
set_option maxRecDepth 20000 in
theorem ggX2_lamp_X2_requireRange : GoodIn wsX2_lamp wsX2_requireRange := goodIn_ca (goodIn_r _ [12, 13, 14] (by decide +kernel) (by decide +kernel)) (goodIn_sub (fun _ h => List.mem_cons_of_mem _ (List.mem_append_left _ (List.mem_append_right _ h))) (by decide +kernel))
set_option maxRecDepth 20000 in
theorem gX2_lamp_X2_requireRange : GoodIn wsX2_lamp (va_wsS RX2 30 yX2_requireRange wsX2_requireRange) := goodIn_app (goodIn_of _ (by decide +kernel)) ggX2_lamp_X2_requireRange
set_option maxRecDepth 20000 in
theorem ggX2_lamp_X2_requireRoom : GoodIn wsX2_lamp wsX2_requireRoom := goodIn_ca (goodIn_r _ [17, 18, 19] (by decide +kernel) (by decide +kernel)) (goodIn_sub (fun _ h => List.mem_cons_of_mem _ (List.mem_append_right _ h)) (by decide +kernel))
set_option maxRecDepth 20000 in
theorem gX2_lamp_X2_requireRoom : GoodIn wsX2_lamp (va_wsS RX2 38 yX2_requireRoom wsX2_requireRoom) := goodIn_app (goodIn_of _ (by decide +kernel)) ggX2_lamp_X2_requireRoom
set_option maxRecDepth 20000 in
theorem ggX2_lamp_X1_addLamp : GoodIn wsX2_lamp wsX1_addLamp := goodIn_r _ [24, 25, 26, 27, 32, 33, 34, 35, 36, 37, 38, 39, 40, 41, 42, 43, 44, 45, 46, 47, 48] (by decide +kernel) (by decide +kernel)
set_option maxRecDepth 20000 in
theorem gX2_lamp_X1_addLamp : GoodIn wsX2_lamp (wsV RX2 66 RX1 yX1_addLamp wsX1_addLamp) := goodIn_app (goodIn_of _ (by decide +kernel)) ggX2_lamp_X1_addLamp
theorem dX2_lamp_0 : decode cX2_lamp 0 = .ok (.iload_n 1, 1) := by decide +kernel
theorem dX2_lamp_1 : decode cX2_lamp 1 = .ok (.aload_n 0, 1) := by decide +kernel
theorem dX2_lamp_2 : decode cX2_lamp 2 = .ok (.getfield 12, 3) := by decide +kernel
theorem dX2_lamp_5 : decode cX2_lamp 5 = .ok (.getfield 56, 3) := by decide +kernel
theorem dX2_lamp_8 : decode cX2_lamp 8 = .ok (.invokestatic 46, 3) := by decide +kernel
theorem dX2_lamp_11 : decode cX2_lamp 11 = .ok (.iload_n 2, 1) := by decide +kernel
theorem dX2_lamp_12 : decode cX2_lamp 12 = .ok (.iconst 2, 1) := by decide +kernel
theorem dX2_lamp_13 : decode cX2_lamp 13 = .ok (.bipush 9, 2) := by decide +kernel
theorem dX2_lamp_15 : decode cX2_lamp 15 = .ok (.invokestatic 30, 3) := by decide +kernel
theorem dX2_lamp_18 : decode cX2_lamp 18 = .ok (.aload_n 0, 1) := by decide +kernel
theorem dX2_lamp_19 : decode cX2_lamp 19 = .ok (.getfield 12, 3) := by decide +kernel
theorem dX2_lamp_22 : decode cX2_lamp 22 = .ok (.getfield 63, 3) := by decide +kernel
theorem dX2_lamp_25 : decode cX2_lamp 25 = .ok (.bipush 20, 2) := by decide +kernel
theorem dX2_lamp_27 : decode cX2_lamp 27 = .ok (.invokestatic 38, 3) := by decide +kernel
theorem dX2_lamp_30 : decode cX2_lamp 30 = .ok (.aload_n 0, 1) := by decide +kernel
theorem dX2_lamp_31 : decode cX2_lamp 31 = .ok (.getfield 12, 3) := by decide +kernel
theorem dX2_lamp_34 : decode cX2_lamp 34 = .ok (.iload_n 1, 1) := by decide +kernel
theorem dX2_lamp_35 : decode cX2_lamp 35 = .ok (.iload_n 2, 1) := by decide +kernel
theorem dX2_lamp_36 : decode cX2_lamp 36 = .ok (.invokevirtual 66, 3) := by decide +kernel
theorem dX2_lamp_39 : decode cX2_lamp 39 = .ok (.ireturn, 1) := by decide +kernel
set_option maxRecDepth 20000 in
theorem ggX2_lid_X2_requireIndex : GoodIn wsX2_lid wsX2_requireIndex := goodIn_ca (goodIn_r _ [7, 8, 9] (by decide +kernel) (by decide +kernel)) (goodIn_sub (fun _ h => List.mem_cons_of_mem _ (List.mem_append_left _ (List.mem_append_right _ h))) (by decide +kernel))
set_option maxRecDepth 20000 in
theorem gX2_lid_X2_requireIndex : GoodIn wsX2_lid (va_wsS RX2 46 yX2_requireIndex wsX2_requireIndex) := goodIn_app (goodIn_of _ (by decide +kernel)) ggX2_lid_X2_requireIndex
set_option maxRecDepth 20000 in
theorem ggX2_lid_X2_requireRange : GoodIn wsX2_lid wsX2_requireRange := goodIn_ca (goodIn_r _ [12, 13, 14] (by decide +kernel) (by decide +kernel)) (goodIn_sub (fun _ h => List.mem_cons_of_mem _ (List.mem_append_right _ h)) (by decide +kernel))
set_option maxRecDepth 20000 in
theorem gX2_lid_X2_requireRange : GoodIn wsX2_lid (va_wsS RX2 30 yX2_requireRange wsX2_requireRange) := goodIn_app (goodIn_of _ (by decide +kernel)) ggX2_lid_X2_requireRange
theorem dX2_lid_0 : decode cX2_lid 0 = .ok (.iload_n 1, 1) := by decide +kernel
theorem dX2_lid_1 : decode cX2_lid 1 = .ok (.aload_n 0, 1) := by decide +kernel
theorem dX2_lid_2 : decode cX2_lid 2 = .ok (.getfield 12, 3) := by decide +kernel
theorem dX2_lid_5 : decode cX2_lid 5 = .ok (.getfield 63, 3) := by decide +kernel
theorem dX2_lid_8 : decode cX2_lid 8 = .ok (.invokestatic 46, 3) := by decide +kernel
theorem dX2_lid_11 : decode cX2_lid 11 = .ok (.iload_n 2, 1) := by decide +kernel
theorem dX2_lid_12 : decode cX2_lid 12 = .ok (.iconst 0, 1) := by decide +kernel
theorem dX2_lid_13 : decode cX2_lid 13 = .ok (.bipush 9, 2) := by decide +kernel
theorem dX2_lid_15 : decode cX2_lid 15 = .ok (.invokestatic 30, 3) := by decide +kernel
theorem dX2_lid_18 : decode cX2_lid 18 = .ok (.aload_n 0, 1) := by decide +kernel
theorem dX2_lid_19 : decode cX2_lid 19 = .ok (.getfield 12, 3) := by decide +kernel
theorem dX2_lid_22 : decode cX2_lid 22 = .ok (.getfield 70, 3) := by decide +kernel
theorem dX2_lid_25 : decode cX2_lid 25 = .ok (.iload_n 1, 1) := by decide +kernel
theorem dX2_lid_26 : decode cX2_lid 26 = .ok (.iaload, 1) := by decide +kernel
theorem dX2_lid_27 : decode cX2_lid 27 = .ok (.istore_n 3, 1) := by decide +kernel
theorem dX2_lid_28 : decode cX2_lid 28 = .ok (.aload_n 0, 1) := by decide +kernel
theorem dX2_lid_29 : decode cX2_lid 29 = .ok (.getfield 12, 3) := by decide +kernel
theorem dX2_lid_32 : decode cX2_lid 32 = .ok (.getfield 70, 3) := by decide +kernel
theorem dX2_lid_35 : decode cX2_lid 35 = .ok (.iload_n 1, 1) := by decide +kernel
theorem dX2_lid_36 : decode cX2_lid 36 = .ok (.iload_n 2, 1) := by decide +kernel
theorem dX2_lid_37 : decode cX2_lid 37 = .ok (.iastore, 1) := by decide +kernel
theorem dX2_lid_38 : decode cX2_lid 38 = .ok (.iload_n 3, 1) := by decide +kernel
theorem dX2_lid_39 : decode cX2_lid 39 = .ok (.ireturn, 1) := by decide +kernel
set_option maxRecDepth 20000 in
theorem ggX2_setWind_X2_requireIndex : GoodIn wsX2_setWind wsX2_requireIndex := goodIn_ca (goodIn_r _ [6, 7, 8] (by decide +kernel) (by decide +kernel)) (goodIn_sub (fun _ h => List.mem_cons_of_mem _ (List.mem_append_left _ (List.mem_append_right _ h))) (by decide +kernel))
set_option maxRecDepth 20000 in
theorem gX2_setWind_X2_requireIndex : GoodIn wsX2_setWind (va_wsS RX2 46 yX2_requireIndex wsX2_requireIndex) := goodIn_app (goodIn_of _ (by decide +kernel)) ggX2_setWind_X2_requireIndex
set_option maxRecDepth 20000 in
theorem ggX2_setWind_X2_requireRange : GoodIn wsX2_setWind wsX2_requireRange := goodIn_ca (goodIn_r _ [11, 12, 13] (by decide +kernel) (by decide +kernel)) (goodIn_sub (fun _ h => List.mem_cons_of_mem _ (List.mem_append_right _ h)) (by decide +kernel))
set_option maxRecDepth 20000 in
theorem gX2_setWind_X2_requireRange : GoodIn wsX2_setWind (va_wsS RX2 30 yX2_requireRange wsX2_requireRange) := goodIn_app (goodIn_of _ (by decide +kernel)) ggX2_setWind_X2_requireRange
theorem dX2_setWind_0 : decode cX2_setWind 0 = .ok (.iload_n 1, 1) := by decide +kernel
theorem dX2_setWind_1 : decode cX2_setWind 1 = .ok (.bipush 10, 2) := by decide +kernel
theorem dX2_setWind_3 : decode cX2_setWind 3 = .ok (.invokestatic 46, 3) := by decide +kernel
theorem dX2_setWind_6 : decode cX2_setWind 6 = .ok (.iload_n 2, 1) := by decide +kernel
theorem dX2_setWind_7 : decode cX2_setWind 7 = .ok (.iconst 0, 1) := by decide +kernel
theorem dX2_setWind_8 : decode cX2_setWind 8 = .ok (.bipush 9, 2) := by decide +kernel
theorem dX2_setWind_10 : decode cX2_setWind 10 = .ok (.invokestatic 30, 3) := by decide +kernel
theorem dX2_setWind_13 : decode cX2_setWind 13 = .ok (.aload_n 0, 1) := by decide +kernel
theorem dX2_setWind_14 : decode cX2_setWind 14 = .ok (.getfield 12, 3) := by decide +kernel
theorem dX2_setWind_17 : decode cX2_setWind 17 = .ok (.getfield 73, 3) := by decide +kernel
theorem dX2_setWind_20 : decode cX2_setWind 20 = .ok (.iload_n 1, 1) := by decide +kernel
theorem dX2_setWind_21 : decode cX2_setWind 21 = .ok (.iaload, 1) := by decide +kernel
theorem dX2_setWind_22 : decode cX2_setWind 22 = .ok (.istore_n 3, 1) := by decide +kernel
theorem dX2_setWind_23 : decode cX2_setWind 23 = .ok (.aload_n 0, 1) := by decide +kernel
theorem dX2_setWind_24 : decode cX2_setWind 24 = .ok (.getfield 12, 3) := by decide +kernel
theorem dX2_setWind_27 : decode cX2_setWind 27 = .ok (.getfield 73, 3) := by decide +kernel
theorem dX2_setWind_30 : decode cX2_setWind 30 = .ok (.iload_n 1, 1) := by decide +kernel
theorem dX2_setWind_31 : decode cX2_setWind 31 = .ok (.iload_n 2, 1) := by decide +kernel
theorem dX2_setWind_32 : decode cX2_setWind 32 = .ok (.iastore, 1) := by decide +kernel
theorem dX2_setWind_33 : decode cX2_setWind 33 = .ok (.iload_n 3, 1) := by decide +kernel
theorem dX2_setWind_34 : decode cX2_setWind 34 = .ok (.ireturn, 1) := by decide +kernel
set_option maxRecDepth 20000 in
theorem ggX2_hire_X2_requireIndex : GoodIn wsX2_hire wsX2_requireIndex := goodIn_ca (goodIn_r _ [9, 10, 11] (by decide +kernel) (by decide +kernel)) (goodIn_sub (fun _ h => List.mem_cons_of_mem _ (List.mem_append_left _ (List.mem_append_left _ (List.mem_append_right _ h)))) (by decide +kernel))
set_option maxRecDepth 20000 in
theorem gX2_hire_X2_requireIndex : GoodIn wsX2_hire (va_wsS RX2 46 yX2_requireIndex wsX2_requireIndex) := goodIn_app (goodIn_of _ (by decide +kernel)) ggX2_hire_X2_requireIndex
set_option maxRecDepth 20000 in
theorem ggX2_hire_X2_requireRange : GoodIn wsX2_hire wsX2_requireRange := goodIn_ca (goodIn_r _ [14, 15, 16] (by decide +kernel) (by decide +kernel)) (goodIn_sub (fun _ h => List.mem_cons_of_mem _ (List.mem_append_left _ (List.mem_append_right _ h))) (by decide +kernel))
set_option maxRecDepth 20000 in
theorem gX2_hire_X2_requireRange : GoodIn wsX2_hire (va_wsS RX2 30 yX2_requireRange wsX2_requireRange) := goodIn_app (goodIn_of _ (by decide +kernel)) ggX2_hire_X2_requireRange
set_option maxRecDepth 20000 in
theorem ggX2_hire_X2_requireRoom : GoodIn wsX2_hire wsX2_requireRoom := goodIn_ca (goodIn_r _ [19, 20, 21] (by decide +kernel) (by decide +kernel)) (goodIn_sub (fun _ h => List.mem_cons_of_mem _ (List.mem_append_right _ h)) (by decide +kernel))
set_option maxRecDepth 20000 in
theorem gX2_hire_X2_requireRoom : GoodIn wsX2_hire (va_wsS RX2 38 yX2_requireRoom wsX2_requireRoom) := goodIn_app (goodIn_of _ (by decide +kernel)) ggX2_hire_X2_requireRoom
set_option maxRecDepth 20000 in
theorem ggX2_hire_X1_addLighter : GoodIn wsX2_hire wsX1_addLighter := goodIn_r _ [26, 27, 28, 29, 48, 49, 50, 51, 52, 53, 54, 55, 56, 57, 58, 59, 60, 61, 62, 63, 64] (by decide +kernel) (by decide +kernel)
set_option maxRecDepth 20000 in
theorem gX2_hire_X1_addLighter : GoodIn wsX2_hire (wsV RX2 79 RX1 yX1_addLighter wsX1_addLighter) := goodIn_app (goodIn_of _ (by decide +kernel)) ggX2_hire_X1_addLighter
set_option maxRecDepth 20000 in
theorem ggX2_hire_X0_sendHome : GoodIn wsX2_hire wsX0_sendHome := goodIn_r _ [34, 35, 36, 37, 38, 39, 40, 33, 41, 42, 43, 65, 66, 67, 68, 69, 70, 71, 72, 73, 74, 75, 76, 77, 78, 79, 80, 48, 49, 50, 51, 52, 53, 54, 55, 56, 57, 58, 59, 60, 61, 62, 63, 64] (by decide +kernel) (by decide +kernel)
set_option maxRecDepth 20000 in
theorem gX2_hire_X0_sendHome : GoodIn wsX2_hire (wsV RX2 85 RX0 yX0_sendHome wsX0_sendHome) := goodIn_app (goodIn_of _ (by decide +kernel)) ggX2_hire_X0_sendHome
theorem dX2_hire_0 : decode cX2_hire 0 = .ok (.iload_n 1, 1) := by decide +kernel
theorem dX2_hire_1 : decode cX2_hire 1 = .ok (.aload_n 0, 1) := by decide +kernel
theorem dX2_hire_2 : decode cX2_hire 2 = .ok (.getfield 12, 3) := by decide +kernel
theorem dX2_hire_5 : decode cX2_hire 5 = .ok (.getfield 34, 3) := by decide +kernel
theorem dX2_hire_8 : decode cX2_hire 8 = .ok (.invokestatic 46, 3) := by decide +kernel
theorem dX2_hire_11 : decode cX2_hire 11 = .ok (.iload_n 2, 1) := by decide +kernel
theorem dX2_hire_12 : decode cX2_hire 12 = .ok (.iconst 1, 1) := by decide +kernel
theorem dX2_hire_13 : decode cX2_hire 13 = .ok (.bipush 9, 2) := by decide +kernel
theorem dX2_hire_15 : decode cX2_hire 15 = .ok (.invokestatic 30, 3) := by decide +kernel
theorem dX2_hire_18 : decode cX2_hire 18 = .ok (.iload_n 3, 1) := by decide +kernel
theorem dX2_hire_19 : decode cX2_hire 19 = .ok (.iconst 0, 1) := by decide +kernel
theorem dX2_hire_20 : decode cX2_hire 20 = .ok (.sipush 999, 3) := by decide +kernel
theorem dX2_hire_23 : decode cX2_hire 23 = .ok (.invokestatic 30, 3) := by decide +kernel
theorem dX2_hire_26 : decode cX2_hire 26 = .ok (.aload_n 0, 1) := by decide +kernel
theorem dX2_hire_27 : decode cX2_hire 27 = .ok (.getfield 12, 3) := by decide +kernel
theorem dX2_hire_30 : decode cX2_hire 30 = .ok (.getfield 76, 3) := by decide +kernel
theorem dX2_hire_33 : decode cX2_hire 33 = .ok (.iconst 4, 1) := by decide +kernel
theorem dX2_hire_34 : decode cX2_hire 34 = .ok (.invokestatic 38, 3) := by decide +kernel
theorem dX2_hire_37 : decode cX2_hire 37 = .ok (.aload_n 0, 1) := by decide +kernel
theorem dX2_hire_38 : decode cX2_hire 38 = .ok (.getfield 12, 3) := by decide +kernel
theorem dX2_hire_41 : decode cX2_hire 41 = .ok (.iload_n 1, 1) := by decide +kernel
theorem dX2_hire_42 : decode cX2_hire 42 = .ok (.iload_n 2, 1) := by decide +kernel
theorem dX2_hire_43 : decode cX2_hire 43 = .ok (.invokevirtual 79, 3) := by decide +kernel
theorem dX2_hire_46 : decode cX2_hire 46 = .ok (.istore 4, 2) := by decide +kernel
theorem dX2_hire_48 : decode cX2_hire 48 = .ok (.aload_n 0, 1) := by decide +kernel
theorem dX2_hire_49 : decode cX2_hire 49 = .ok (.getfield 19, 3) := by decide +kernel
theorem dX2_hire_52 : decode cX2_hire 52 = .ok (.getfield 82, 3) := by decide +kernel
theorem dX2_hire_55 : decode cX2_hire 55 = .ok (.iload 4, 2) := by decide +kernel
theorem dX2_hire_57 : decode cX2_hire 57 = .ok (.iload_n 3, 1) := by decide +kernel
theorem dX2_hire_58 : decode cX2_hire 58 = .ok (.iastore, 1) := by decide +kernel
theorem dX2_hire_59 : decode cX2_hire 59 = .ok (.aload_n 0, 1) := by decide +kernel
theorem dX2_hire_60 : decode cX2_hire 60 = .ok (.getfield 19, 3) := by decide +kernel
theorem dX2_hire_63 : decode cX2_hire 63 = .ok (.aload_n 0, 1) := by decide +kernel
theorem dX2_hire_64 : decode cX2_hire 64 = .ok (.getfield 12, 3) := by decide +kernel
theorem dX2_hire_67 : decode cX2_hire 67 = .ok (.iload 4, 2) := by decide +kernel
theorem dX2_hire_69 : decode cX2_hire 69 = .ok (.invokevirtual 85, 3) := by decide +kernel
theorem dX2_hire_72 : decode cX2_hire 72 = .ok (.iload 4, 2) := by decide +kernel
theorem dX2_hire_74 : decode cX2_hire 74 = .ok (.ireturn, 1) := by decide +kernel
set_option maxRecDepth 20000 in
theorem ggX2_round_X2_requireIndex : GoodIn wsX2_round wsX2_requireIndex := goodIn_ca (goodIn_r _ [10, 11, 12] (by decide +kernel) (by decide +kernel)) (goodIn_sub (fun _ h => List.mem_cons_of_mem _ (List.mem_append_right _ h)) (by decide +kernel))
set_option maxRecDepth 20000 in
theorem gX2_round_X2_requireIndex : GoodIn wsX2_round (va_wsS RX2 46 yX2_requireIndex wsX2_requireIndex) := goodIn_app (goodIn_of _ (by decide +kernel)) ggX2_round_X2_requireIndex
set_option maxRecDepth 20000 in
theorem ggX2_round_X1_isInRound : GoodIn wsX2_round wsX1_isInRound := goodIn_r _ [17, 18, 19, 31, 32, 33, 34, 35, 36, 37, 38, 39, 40, 41, 42, 43, 44, 45, 46, 47] (by decide +kernel) (by decide +kernel)
set_option maxRecDepth 20000 in
theorem gX2_round_X1_isInRound : GoodIn wsX2_round (wsV RX2 89 RX1 yX1_isInRound wsX1_isInRound) := goodIn_app (goodIn_of _ (by decide +kernel)) ggX2_round_X1_isInRound
set_option maxRecDepth 20000 in
theorem ggX2_round_X2_requireRoom : GoodIn wsX2_round wsX2_requireRoom := goodIn_ca (goodIn_r _ [22, 1, 2] (by decide +kernel) (by decide +kernel)) (goodIn_sub (fun _ h => List.mem_cons_of_mem _ (List.mem_append_left _ (List.mem_append_right _ h))) (by decide +kernel))
set_option maxRecDepth 20000 in
theorem gX2_round_X2_requireRoom : GoodIn wsX2_round (va_wsS RX2 38 yX2_requireRoom wsX2_requireRoom) := goodIn_app (goodIn_of _ (by decide +kernel)) ggX2_round_X2_requireRoom
set_option maxRecDepth 20000 in
theorem ggX2_round_X1_addToRound : GoodIn wsX2_round wsX1_addToRound := goodIn_r _ [26, 19, 18, 31, 32, 33, 34, 35, 36, 37, 38, 39, 40, 41, 42, 43, 44, 45, 46, 47] (by decide +kernel) (by decide +kernel)
set_option maxRecDepth 20000 in
theorem gX2_round_X1_addToRound : GoodIn wsX2_round (wsV RX2 101 RX1 yX1_addToRound wsX1_addToRound) := goodIn_app (goodIn_of _ (by decide +kernel)) ggX2_round_X1_addToRound
theorem dX2_round_0 : decode cX2_round 0 = .ok (.iload_n 1, 1) := by decide +kernel
theorem dX2_round_1 : decode cX2_round 1 = .ok (.aload_n 0, 1) := by decide +kernel
theorem dX2_round_2 : decode cX2_round 2 = .ok (.getfield 12, 3) := by decide +kernel
theorem dX2_round_5 : decode cX2_round 5 = .ok (.getfield 76, 3) := by decide +kernel
theorem dX2_round_8 : decode cX2_round 8 = .ok (.invokestatic 46, 3) := by decide +kernel
theorem dX2_round_11 : decode cX2_round 11 = .ok (.iload_n 2, 1) := by decide +kernel
theorem dX2_round_12 : decode cX2_round 12 = .ok (.aload_n 0, 1) := by decide +kernel
theorem dX2_round_13 : decode cX2_round 13 = .ok (.getfield 12, 3) := by decide +kernel
theorem dX2_round_16 : decode cX2_round 16 = .ok (.getfield 63, 3) := by decide +kernel
theorem dX2_round_19 : decode cX2_round 19 = .ok (.invokestatic 46, 3) := by decide +kernel
theorem dX2_round_22 : decode cX2_round 22 = .ok (.aload_n 0, 1) := by decide +kernel
theorem dX2_round_23 : decode cX2_round 23 = .ok (.getfield 12, 3) := by decide +kernel
theorem dX2_round_26 : decode cX2_round 26 = .ok (.iload_n 1, 1) := by decide +kernel
theorem dX2_round_27 : decode cX2_round 27 = .ok (.iload_n 2, 1) := by decide +kernel
theorem dX2_round_28 : decode cX2_round 28 = .ok (.invokevirtual 89, 3) := by decide +kernel
theorem dX2_round_31 : decode cX2_round 31 = .ok (.ifCond .eq 13, 3) := by decide +kernel
theorem dX2_round_34 : decode cX2_round 34 = .ok (.new 93, 3) := by decide +kernel
theorem dX2_round_37 : decode cX2_round 37 = .ok (.dup, 1) := by decide +kernel
theorem dX2_round_38 : decode cX2_round 38 = .ok (.ldc 95, 2) := by decide +kernel
theorem dX2_round_40 : decode cX2_round 40 = .ok (.invokespecial 97, 3) := by decide +kernel
theorem dX2_round_43 : decode cX2_round 43 = .ok (.athrow, 1) := by decide +kernel
theorem dX2_round_44 : decode cX2_round 44 = .ok (.aload_n 0, 1) := by decide +kernel
theorem dX2_round_45 : decode cX2_round 45 = .ok (.getfield 12, 3) := by decide +kernel
theorem dX2_round_48 : decode cX2_round 48 = .ok (.getfield 98, 3) := by decide +kernel
theorem dX2_round_51 : decode cX2_round 51 = .ok (.iload_n 1, 1) := by decide +kernel
theorem dX2_round_52 : decode cX2_round 52 = .ok (.iaload, 1) := by decide +kernel
theorem dX2_round_53 : decode cX2_round 53 = .ok (.bipush 10, 2) := by decide +kernel
theorem dX2_round_55 : decode cX2_round 55 = .ok (.invokestatic 38, 3) := by decide +kernel
theorem dX2_round_58 : decode cX2_round 58 = .ok (.aload_n 0, 1) := by decide +kernel
theorem dX2_round_59 : decode cX2_round 59 = .ok (.getfield 12, 3) := by decide +kernel
theorem dX2_round_62 : decode cX2_round 62 = .ok (.iload_n 1, 1) := by decide +kernel
theorem dX2_round_63 : decode cX2_round 63 = .ok (.iload_n 2, 1) := by decide +kernel
theorem dX2_round_64 : decode cX2_round 64 = .ok (.invokevirtual 101, 3) := by decide +kernel
theorem dX2_round_67 : decode cX2_round 67 = .ok (.ireturn, 1) := by decide +kernel
set_option maxRecDepth 20000 in
theorem ggX2_fill_X2_requireIndex : GoodIn wsX2_fill wsX2_requireIndex := goodIn_ca (goodIn_r _ [12, 13, 14] (by decide +kernel) (by decide +kernel)) (goodIn_sub (fun _ h => List.mem_cons_of_mem _ (List.mem_append_left _ (List.mem_append_right _ h))) (by decide +kernel))
set_option maxRecDepth 20000 in
theorem gX2_fill_X2_requireIndex : GoodIn wsX2_fill (va_wsS RX2 46 yX2_requireIndex wsX2_requireIndex) := goodIn_app (goodIn_of _ (by decide +kernel)) ggX2_fill_X2_requireIndex
set_option maxRecDepth 20000 in
theorem ggX2_fill_X2_requireRange : GoodIn wsX2_fill wsX2_requireRange := goodIn_ca (goodIn_r _ [17, 18, 19] (by decide +kernel) (by decide +kernel)) (goodIn_sub (fun _ h => List.mem_cons_of_mem _ (List.mem_append_right _ h)) (by decide +kernel))
set_option maxRecDepth 20000 in
theorem gX2_fill_X2_requireRange : GoodIn wsX2_fill (va_wsS RX2 30 yX2_requireRange wsX2_requireRange) := goodIn_app (goodIn_of _ (by decide +kernel)) ggX2_fill_X2_requireRange
theorem dX2_fill_0 : decode cX2_fill 0 = .ok (.iload_n 1, 1) := by decide +kernel
theorem dX2_fill_1 : decode cX2_fill 1 = .ok (.aload_n 0, 1) := by decide +kernel
theorem dX2_fill_2 : decode cX2_fill 2 = .ok (.getfield 12, 3) := by decide +kernel
theorem dX2_fill_5 : decode cX2_fill 5 = .ok (.getfield 76, 3) := by decide +kernel
theorem dX2_fill_8 : decode cX2_fill 8 = .ok (.invokestatic 46, 3) := by decide +kernel
theorem dX2_fill_11 : decode cX2_fill 11 = .ok (.iload_n 2, 1) := by decide +kernel
theorem dX2_fill_12 : decode cX2_fill 12 = .ok (.iconst 1, 1) := by decide +kernel
theorem dX2_fill_13 : decode cX2_fill 13 = .ok (.sipush 999, 3) := by decide +kernel
theorem dX2_fill_16 : decode cX2_fill 16 = .ok (.invokestatic 30, 3) := by decide +kernel
theorem dX2_fill_19 : decode cX2_fill 19 = .ok (.aload_n 0, 1) := by decide +kernel
theorem dX2_fill_20 : decode cX2_fill 20 = .ok (.getfield 19, 3) := by decide +kernel
theorem dX2_fill_23 : decode cX2_fill 23 = .ok (.getfield 82, 3) := by decide +kernel
theorem dX2_fill_26 : decode cX2_fill 26 = .ok (.iload_n 1, 1) := by decide +kernel
theorem dX2_fill_27 : decode cX2_fill 27 = .ok (.sipush 999, 3) := by decide +kernel
theorem dX2_fill_30 : decode cX2_fill 30 = .ok (.aload_n 0, 1) := by decide +kernel
theorem dX2_fill_31 : decode cX2_fill 31 = .ok (.getfield 19, 3) := by decide +kernel
theorem dX2_fill_34 : decode cX2_fill 34 = .ok (.getfield 82, 3) := by decide +kernel
theorem dX2_fill_37 : decode cX2_fill 37 = .ok (.iload_n 1, 1) := by decide +kernel
theorem dX2_fill_38 : decode cX2_fill 38 = .ok (.iaload, 1) := by decide +kernel
theorem dX2_fill_39 : decode cX2_fill 39 = .ok (.iload_n 2, 1) := by decide +kernel
theorem dX2_fill_40 : decode cX2_fill 40 = .ok (.iadd, 1) := by decide +kernel
theorem dX2_fill_41 : decode cX2_fill 41 = .ok (.invokestatic 104, 3) := by decide +kernel
theorem dX2_fill_44 : decode cX2_fill 44 = .ok (.iastore, 1) := by decide +kernel
theorem dX2_fill_45 : decode cX2_fill 45 = .ok (.aload_n 0, 1) := by decide +kernel
theorem dX2_fill_46 : decode cX2_fill 46 = .ok (.getfield 19, 3) := by decide +kernel
theorem dX2_fill_49 : decode cX2_fill 49 = .ok (.getfield 82, 3) := by decide +kernel
theorem dX2_fill_52 : decode cX2_fill 52 = .ok (.iload_n 1, 1) := by decide +kernel
theorem dX2_fill_53 : decode cX2_fill 53 = .ok (.iaload, 1) := by decide +kernel
theorem dX2_fill_54 : decode cX2_fill 54 = .ok (.ireturn, 1) := by decide +kernel
set_option maxRecDepth 20000 in
theorem ggX2_way_X2_requireIndex : GoodIn wsX2_way wsX2_requireIndex := goodIn_ca (goodIn_r _ [8, 9, 10] (by decide +kernel) (by decide +kernel)) (goodIn_sub (fun _ h => List.mem_cons_of_mem _ (List.mem_append_right _ h)) (by decide +kernel))
set_option maxRecDepth 20000 in
theorem gX2_way_X2_requireIndex : GoodIn wsX2_way (va_wsS RX2 46 yX2_requireIndex wsX2_requireIndex) := goodIn_app (goodIn_of _ (by decide +kernel)) ggX2_way_X2_requireIndex
theorem dX2_way_0 : decode cX2_way 0 = .ok (.iload_n 1, 1) := by decide +kernel
theorem dX2_way_1 : decode cX2_way 1 = .ok (.aload_n 0, 1) := by decide +kernel
theorem dX2_way_2 : decode cX2_way 2 = .ok (.getfield 12, 3) := by decide +kernel
theorem dX2_way_5 : decode cX2_way 5 = .ok (.getfield 34, 3) := by decide +kernel
theorem dX2_way_8 : decode cX2_way 8 = .ok (.invokestatic 46, 3) := by decide +kernel
theorem dX2_way_11 : decode cX2_way 11 = .ok (.iload_n 2, 1) := by decide +kernel
theorem dX2_way_12 : decode cX2_way 12 = .ok (.aload_n 0, 1) := by decide +kernel
theorem dX2_way_13 : decode cX2_way 13 = .ok (.getfield 12, 3) := by decide +kernel
theorem dX2_way_16 : decode cX2_way 16 = .ok (.getfield 34, 3) := by decide +kernel
theorem dX2_way_19 : decode cX2_way 19 = .ok (.invokestatic 46, 3) := by decide +kernel
theorem dX2_way_22 : decode cX2_way 22 = .ok (.aload_n 0, 1) := by decide +kernel
theorem dX2_way_23 : decode cX2_way 23 = .ok (.getfield 12, 3) := by decide +kernel
theorem dX2_way_26 : decode cX2_way 26 = .ok (.getfield 109, 3) := by decide +kernel
theorem dX2_way_29 : decode cX2_way 29 = .ok (.iload_n 1, 1) := by decide +kernel
theorem dX2_way_30 : decode cX2_way 30 = .ok (.aaload, 1) := by decide +kernel
theorem dX2_way_31 : decode cX2_way 31 = .ok (.iload_n 2, 1) := by decide +kernel
theorem dX2_way_32 : decode cX2_way 32 = .ok (.iaload, 1) := by decide +kernel
theorem dX2_way_33 : decode cX2_way 33 = .ok (.istore_n 3, 1) := by decide +kernel
theorem dX2_way_34 : decode cX2_way 34 = .ok (.iload_n 3, 1) := by decide +kernel
theorem dX2_way_35 : decode cX2_way 35 = .ok (.ldc 113, 2) := by decide +kernel
theorem dX2_way_37 : decode cX2_way 37 = .ok (.if_icmp .ge 7, 3) := by decide +kernel
theorem dX2_way_40 : decode cX2_way 40 = .ok (.iload_n 3, 1) := by decide +kernel
theorem dX2_way_41 : decode cX2_way 41 = .ok (.goto 4, 3) := by decide +kernel
theorem dX2_way_44 : decode cX2_way 44 = .ok (.iconst (-1), 1) := by decide +kernel
theorem dX2_way_45 : decode cX2_way 45 = .ok (.ireturn, 1) := by decide +kernel
set_option maxRecDepth 20000 in
theorem ggX2_told_X2_requireIndex : GoodIn wsX2_told wsX2_requireIndex := goodIn_ca (goodIn_r _ [15, 16, 17] (by decide +kernel) (by decide +kernel)) (goodIn_sub (fun _ h => List.mem_cons_of_mem _ (List.mem_append_right _ h)) (by decide +kernel))
set_option maxRecDepth 20000 in
theorem gX2_told_X2_requireIndex : GoodIn wsX2_told (va_wsS RX2 46 yX2_requireIndex wsX2_requireIndex) := goodIn_app (goodIn_of _ (by decide +kernel)) ggX2_told_X2_requireIndex
set_option maxRecDepth 20000 in
theorem ggX2_told_X0_whoGoesTo : GoodIn wsX2_told wsX0_whoGoesTo := goodIn_r _ [22, 23, 24, 29, 30, 31, 32, 33, 34, 35, 36, 37, 38, 39, 40, 41, 42, 43, 44, 45, 46, 47, 48, 49, 50, 51, 52, 53, 54, 55, 56, 57, 58, 59, 60, 61] (by decide +kernel) (by decide +kernel)
set_option maxRecDepth 20000 in
theorem gX2_told_X0_whoGoesTo : GoodIn wsX2_told (wsV RX2 130 RX0 yX0_whoGoesTo wsX0_whoGoesTo) := goodIn_app (goodIn_of _ (by decide +kernel)) ggX2_told_X0_whoGoesTo
theorem dX2_told_0 : decode cX2_told 0 = .ok (.iload_n 1, 1) := by decide +kernel
theorem dX2_told_1 : decode cX2_told 1 = .ok (.aload_n 0, 1) := by decide +kernel
theorem dX2_told_2 : decode cX2_told 2 = .ok (.getfield 12, 3) := by decide +kernel
theorem dX2_told_5 : decode cX2_told 5 = .ok (.getfield 63, 3) := by decide +kernel
theorem dX2_told_8 : decode cX2_told 8 = .ok (.invokestatic 46, 3) := by decide +kernel
theorem dX2_told_11 : decode cX2_told 11 = .ok (.iload_n 2, 1) := by decide +kernel
theorem dX2_told_12 : decode cX2_told 12 = .ok (.bipush 9, 2) := by decide +kernel
theorem dX2_told_14 : decode cX2_told 14 = .ok (.invokestatic 46, 3) := by decide +kernel
theorem dX2_told_17 : decode cX2_told 17 = .ok (.iload_n 2, 1) := by decide +kernel
theorem dX2_told_18 : decode cX2_told 18 = .ok (.tableswitch 137 0 7 #[46, 56, 66, 76, 86, 96, 114, 127], 46) := by decide +kernel
theorem dX2_told_64 : decode cX2_told 64 = .ok (.aload_n 0, 1) := by decide +kernel
theorem dX2_told_65 : decode cX2_told 65 = .ok (.getfield 12, 3) := by decide +kernel
theorem dX2_told_68 : decode cX2_told 68 = .ok (.getfield 114, 3) := by decide +kernel
theorem dX2_told_71 : decode cX2_told 71 = .ok (.iload_n 1, 1) := by decide +kernel
theorem dX2_told_72 : decode cX2_told 72 = .ok (.iaload, 1) := by decide +kernel
theorem dX2_told_73 : decode cX2_told 73 = .ok (.ireturn, 1) := by decide +kernel
theorem dX2_told_74 : decode cX2_told 74 = .ok (.aload_n 0, 1) := by decide +kernel
theorem dX2_told_75 : decode cX2_told 75 = .ok (.getfield 12, 3) := by decide +kernel
theorem dX2_told_78 : decode cX2_told 78 = .ok (.getfield 117, 3) := by decide +kernel
theorem dX2_told_81 : decode cX2_told 81 = .ok (.iload_n 1, 1) := by decide +kernel
theorem dX2_told_82 : decode cX2_told 82 = .ok (.iaload, 1) := by decide +kernel
theorem dX2_told_83 : decode cX2_told 83 = .ok (.ireturn, 1) := by decide +kernel
theorem dX2_told_84 : decode cX2_told 84 = .ok (.aload_n 0, 1) := by decide +kernel
theorem dX2_told_85 : decode cX2_told 85 = .ok (.getfield 12, 3) := by decide +kernel
theorem dX2_told_88 : decode cX2_told 88 = .ok (.getfield 70, 3) := by decide +kernel
theorem dX2_told_91 : decode cX2_told 91 = .ok (.iload_n 1, 1) := by decide +kernel
theorem dX2_told_92 : decode cX2_told 92 = .ok (.iaload, 1) := by decide +kernel
theorem dX2_told_93 : decode cX2_told 93 = .ok (.ireturn, 1) := by decide +kernel
theorem dX2_told_94 : decode cX2_told 94 = .ok (.aload_n 0, 1) := by decide +kernel
theorem dX2_told_95 : decode cX2_told 95 = .ok (.getfield 19, 3) := by decide +kernel
theorem dX2_told_98 : decode cX2_told 98 = .ok (.getfield 120, 3) := by decide +kernel
theorem dX2_told_101 : decode cX2_told 101 = .ok (.iload_n 1, 1) := by decide +kernel
theorem dX2_told_102 : decode cX2_told 102 = .ok (.iaload, 1) := by decide +kernel
theorem dX2_told_103 : decode cX2_told 103 = .ok (.ireturn, 1) := by decide +kernel
theorem dX2_told_104 : decode cX2_told 104 = .ok (.aload_n 0, 1) := by decide +kernel
theorem dX2_told_105 : decode cX2_told 105 = .ok (.getfield 19, 3) := by decide +kernel
theorem dX2_told_108 : decode cX2_told 108 = .ok (.getfield 123, 3) := by decide +kernel
theorem dX2_told_111 : decode cX2_told 111 = .ok (.iload_n 1, 1) := by decide +kernel
theorem dX2_told_112 : decode cX2_told 112 = .ok (.iaload, 1) := by decide +kernel
theorem dX2_told_113 : decode cX2_told 113 = .ok (.ireturn, 1) := by decide +kernel
theorem dX2_told_114 : decode cX2_told 114 = .ok (.aload_n 0, 1) := by decide +kernel
theorem dX2_told_115 : decode cX2_told 115 = .ok (.getfield 19, 3) := by decide +kernel
theorem dX2_told_118 : decode cX2_told 118 = .ok (.getfield 126, 3) := by decide +kernel
theorem dX2_told_121 : decode cX2_told 121 = .ok (.iload_n 1, 1) := by decide +kernel
theorem dX2_told_122 : decode cX2_told 122 = .ok (.baload, 1) := by decide +kernel
theorem dX2_told_123 : decode cX2_told 123 = .ok (.ifCond .eq 7, 3) := by decide +kernel
theorem dX2_told_126 : decode cX2_told 126 = .ok (.iconst 1, 1) := by decide +kernel
theorem dX2_told_127 : decode cX2_told 127 = .ok (.goto 4, 3) := by decide +kernel
theorem dX2_told_130 : decode cX2_told 130 = .ok (.iconst 0, 1) := by decide +kernel
theorem dX2_told_131 : decode cX2_told 131 = .ok (.ireturn, 1) := by decide +kernel
theorem dX2_told_132 : decode cX2_told 132 = .ok (.aload_n 0, 1) := by decide +kernel
theorem dX2_told_133 : decode cX2_told 133 = .ok (.getfield 19, 3) := by decide +kernel
theorem dX2_told_136 : decode cX2_told 136 = .ok (.aload_n 0, 1) := by decide +kernel
theorem dX2_told_137 : decode cX2_told 137 = .ok (.getfield 12, 3) := by decide +kernel
theorem dX2_told_140 : decode cX2_told 140 = .ok (.iload_n 1, 1) := by decide +kernel
theorem dX2_told_141 : decode cX2_told 141 = .ok (.invokevirtual 130, 3) := by decide +kernel
theorem dX2_told_144 : decode cX2_told 144 = .ok (.ireturn, 1) := by decide +kernel
theorem dX2_told_145 : decode cX2_told 145 = .ok (.aload_n 0, 1) := by decide +kernel
theorem dX2_told_146 : decode cX2_told 146 = .ok (.getfield 19, 3) := by decide +kernel
theorem dX2_told_149 : decode cX2_told 149 = .ok (.getfield 134, 3) := by decide +kernel
theorem dX2_told_152 : decode cX2_told 152 = .ok (.iload_n 1, 1) := by decide +kernel
theorem dX2_told_153 : decode cX2_told 153 = .ok (.iaload, 1) := by decide +kernel
theorem dX2_told_154 : decode cX2_told 154 = .ok (.ireturn, 1) := by decide +kernel
theorem dX2_told_155 : decode cX2_told 155 = .ok (.aload_n 0, 1) := by decide +kernel
theorem dX2_told_156 : decode cX2_told 156 = .ok (.getfield 19, 3) := by decide +kernel
theorem dX2_told_159 : decode cX2_told 159 = .ok (.getfield 137, 3) := by decide +kernel
theorem dX2_told_162 : decode cX2_told 162 = .ok (.iload_n 1, 1) := by decide +kernel
theorem dX2_told_163 : decode cX2_told 163 = .ok (.iaload, 1) := by decide +kernel
theorem dX2_told_164 : decode cX2_told 164 = .ok (.ireturn, 1) := by decide +kernel
set_option maxRecDepth 20000 in
theorem ggX2_lighter_X2_requireIndex : GoodIn wsX2_lighter wsX2_requireIndex := goodIn_ca (goodIn_r _ [14, 15, 16] (by decide +kernel) (by decide +kernel)) (goodIn_sub (fun _ h => List.mem_cons_of_mem _ (List.mem_append_right _ h)) (by decide +kernel))
set_option maxRecDepth 20000 in
theorem gX2_lighter_X2_requireIndex : GoodIn wsX2_lighter (va_wsS RX2 46 yX2_requireIndex wsX2_requireIndex) := goodIn_app (goodIn_of _ (by decide +kernel)) ggX2_lighter_X2_requireIndex
theorem dX2_lighter_0 : decode cX2_lighter 0 = .ok (.iload_n 1, 1) := by decide +kernel
theorem dX2_lighter_1 : decode cX2_lighter 1 = .ok (.aload_n 0, 1) := by decide +kernel
theorem dX2_lighter_2 : decode cX2_lighter 2 = .ok (.getfield 12, 3) := by decide +kernel
theorem dX2_lighter_5 : decode cX2_lighter 5 = .ok (.getfield 76, 3) := by decide +kernel
theorem dX2_lighter_8 : decode cX2_lighter 8 = .ok (.invokestatic 46, 3) := by decide +kernel
theorem dX2_lighter_11 : decode cX2_lighter 11 = .ok (.iload_n 2, 1) := by decide +kernel
theorem dX2_lighter_12 : decode cX2_lighter 12 = .ok (.bipush 7, 2) := by decide +kernel
theorem dX2_lighter_14 : decode cX2_lighter 14 = .ok (.invokestatic 46, 3) := by decide +kernel
theorem dX2_lighter_17 : decode cX2_lighter 17 = .ok (.iload_n 2, 1) := by decide +kernel
theorem dX2_lighter_18 : decode cX2_lighter 18 = .ok (.tableswitch 98 0 5 #[38, 48, 58, 68, 78, 88], 38) := by decide +kernel
theorem dX2_lighter_56 : decode cX2_lighter 56 = .ok (.aload_n 0, 1) := by decide +kernel
theorem dX2_lighter_57 : decode cX2_lighter 57 = .ok (.getfield 19, 3) := by decide +kernel
theorem dX2_lighter_60 : decode cX2_lighter 60 = .ok (.getfield 140, 3) := by decide +kernel
theorem dX2_lighter_63 : decode cX2_lighter 63 = .ok (.iload_n 1, 1) := by decide +kernel
theorem dX2_lighter_64 : decode cX2_lighter 64 = .ok (.iaload, 1) := by decide +kernel
theorem dX2_lighter_65 : decode cX2_lighter 65 = .ok (.ireturn, 1) := by decide +kernel
theorem dX2_lighter_66 : decode cX2_lighter 66 = .ok (.aload_n 0, 1) := by decide +kernel
theorem dX2_lighter_67 : decode cX2_lighter 67 = .ok (.getfield 12, 3) := by decide +kernel
theorem dX2_lighter_70 : decode cX2_lighter 70 = .ok (.getfield 143, 3) := by decide +kernel
theorem dX2_lighter_73 : decode cX2_lighter 73 = .ok (.iload_n 1, 1) := by decide +kernel
theorem dX2_lighter_74 : decode cX2_lighter 74 = .ok (.iaload, 1) := by decide +kernel
theorem dX2_lighter_75 : decode cX2_lighter 75 = .ok (.ireturn, 1) := by decide +kernel
theorem dX2_lighter_76 : decode cX2_lighter 76 = .ok (.aload_n 0, 1) := by decide +kernel
theorem dX2_lighter_77 : decode cX2_lighter 77 = .ok (.getfield 19, 3) := by decide +kernel
theorem dX2_lighter_80 : decode cX2_lighter 80 = .ok (.getfield 82, 3) := by decide +kernel
theorem dX2_lighter_83 : decode cX2_lighter 83 = .ok (.iload_n 1, 1) := by decide +kernel
theorem dX2_lighter_84 : decode cX2_lighter 84 = .ok (.iaload, 1) := by decide +kernel
theorem dX2_lighter_85 : decode cX2_lighter 85 = .ok (.ireturn, 1) := by decide +kernel
theorem dX2_lighter_86 : decode cX2_lighter 86 = .ok (.aload_n 0, 1) := by decide +kernel
theorem dX2_lighter_87 : decode cX2_lighter 87 = .ok (.getfield 12, 3) := by decide +kernel
theorem dX2_lighter_90 : decode cX2_lighter 90 = .ok (.getfield 98, 3) := by decide +kernel
theorem dX2_lighter_93 : decode cX2_lighter 93 = .ok (.iload_n 1, 1) := by decide +kernel
theorem dX2_lighter_94 : decode cX2_lighter 94 = .ok (.iaload, 1) := by decide +kernel
theorem dX2_lighter_95 : decode cX2_lighter 95 = .ok (.ireturn, 1) := by decide +kernel
theorem dX2_lighter_96 : decode cX2_lighter 96 = .ok (.aload_n 0, 1) := by decide +kernel
theorem dX2_lighter_97 : decode cX2_lighter 97 = .ok (.getfield 19, 3) := by decide +kernel
theorem dX2_lighter_100 : decode cX2_lighter 100 = .ok (.getfield 146, 3) := by decide +kernel
theorem dX2_lighter_103 : decode cX2_lighter 103 = .ok (.iload_n 1, 1) := by decide +kernel
theorem dX2_lighter_104 : decode cX2_lighter 104 = .ok (.iaload, 1) := by decide +kernel
theorem dX2_lighter_105 : decode cX2_lighter 105 = .ok (.ireturn, 1) := by decide +kernel
theorem dX2_lighter_106 : decode cX2_lighter 106 = .ok (.aload_n 0, 1) := by decide +kernel
theorem dX2_lighter_107 : decode cX2_lighter 107 = .ok (.getfield 19, 3) := by decide +kernel
theorem dX2_lighter_110 : decode cX2_lighter 110 = .ok (.getfield 149, 3) := by decide +kernel
theorem dX2_lighter_113 : decode cX2_lighter 113 = .ok (.iload_n 1, 1) := by decide +kernel
theorem dX2_lighter_114 : decode cX2_lighter 114 = .ok (.iaload, 1) := by decide +kernel
theorem dX2_lighter_115 : decode cX2_lighter 115 = .ok (.ireturn, 1) := by decide +kernel
theorem dX2_lighter_116 : decode cX2_lighter 116 = .ok (.aload_n 0, 1) := by decide +kernel
theorem dX2_lighter_117 : decode cX2_lighter 117 = .ok (.getfield 19, 3) := by decide +kernel
theorem dX2_lighter_120 : decode cX2_lighter 120 = .ok (.getfield 152, 3) := by decide +kernel
theorem dX2_lighter_123 : decode cX2_lighter 123 = .ok (.iload_n 1, 1) := by decide +kernel
theorem dX2_lighter_124 : decode cX2_lighter 124 = .ok (.iaload, 1) := by decide +kernel
theorem dX2_lighter_125 : decode cX2_lighter 125 = .ok (.ireturn, 1) := by decide +kernel
set_option maxRecDepth 20000 in
theorem ggX2_burning_X2_requireIndex : GoodIn wsX2_burning wsX2_requireIndex := goodIn_ca (goodIn_r _ [8, 9, 10] (by decide +kernel) (by decide +kernel)) (goodIn_sub (fun _ h => List.mem_cons_of_mem _ (List.mem_append_right _ h)) (by decide +kernel))
set_option maxRecDepth 20000 in
theorem gX2_burning_X2_requireIndex : GoodIn wsX2_burning (va_wsS RX2 46 yX2_requireIndex wsX2_requireIndex) := goodIn_app (goodIn_of _ (by decide +kernel)) ggX2_burning_X2_requireIndex
theorem dX2_burning_0 : decode cX2_burning 0 = .ok (.iload_n 1, 1) := by decide +kernel
theorem dX2_burning_1 : decode cX2_burning 1 = .ok (.aload_n 0, 1) := by decide +kernel
theorem dX2_burning_2 : decode cX2_burning 2 = .ok (.getfield 12, 3) := by decide +kernel
theorem dX2_burning_5 : decode cX2_burning 5 = .ok (.getfield 56, 3) := by decide +kernel
theorem dX2_burning_8 : decode cX2_burning 8 = .ok (.invokestatic 46, 3) := by decide +kernel
theorem dX2_burning_11 : decode cX2_burning 11 = .ok (.aload_n 0, 1) := by decide +kernel
theorem dX2_burning_12 : decode cX2_burning 12 = .ok (.getfield 19, 3) := by decide +kernel
theorem dX2_burning_15 : decode cX2_burning 15 = .ok (.getfield 155, 3) := by decide +kernel
theorem dX2_burning_18 : decode cX2_burning 18 = .ok (.iload_n 1, 1) := by decide +kernel
theorem dX2_burning_19 : decode cX2_burning 19 = .ok (.iaload, 1) := by decide +kernel
theorem dX2_burning_20 : decode cX2_burning 20 = .ok (.ireturn, 1) := by decide +kernel
set_option maxRecDepth 20000 in
theorem ggX2_count_X2_requireIndex : GoodIn wsX2_count wsX2_requireIndex := goodIn_ca (goodIn_r _ [13, 14, 15] (by decide +kernel) (by decide +kernel)) (goodIn_sub (fun _ h => List.mem_cons_of_mem _ (List.mem_append_right _ h)) (by decide +kernel))
set_option maxRecDepth 20000 in
theorem gX2_count_X2_requireIndex : GoodIn wsX2_count (va_wsS RX2 46 yX2_requireIndex wsX2_requireIndex) := goodIn_app (goodIn_of _ (by decide +kernel)) ggX2_count_X2_requireIndex
set_option maxRecDepth 20000 in
theorem ggX2_count_X0_burningLamps : GoodIn wsX2_count wsX0_burningLamps := goodIn_r _ [20, 21, 22, 57, 58, 59, 60, 61, 62, 63, 64, 65, 66, 67, 68, 69, 70, 71, 72, 73, 41, 42, 43, 44, 45, 46, 47, 48, 49, 50, 51, 52, 53, 54, 55, 56] (by decide +kernel) (by decide +kernel)
set_option maxRecDepth 20000 in
theorem gX2_count_X0_burningLamps : GoodIn wsX2_count (wsV RX2 164 RX0 yX0_burningLamps wsX0_burningLamps) := goodIn_app (goodIn_of _ (by decide +kernel)) ggX2_count_X0_burningLamps
set_option maxRecDepth 20000 in
theorem ggX2_count_X0_darkStreets : GoodIn wsX2_count wsX0_darkStreets := goodIn_r _ [26, 21, 27, 28, 29, 19, 30, 22, 57, 58, 59, 60, 61, 62, 63, 64, 65, 66, 67, 68, 69, 70, 71, 72, 73, 41, 42, 43, 44, 45, 46, 47, 48, 49, 50, 51, 52, 53, 54, 55, 56] (by decide +kernel) (by decide +kernel)
set_option maxRecDepth 20000 in
theorem gX2_count_X0_darkStreets : GoodIn wsX2_count (wsV RX2 168 RX0 yX0_darkStreets wsX0_darkStreets) := goodIn_app (goodIn_of _ (by decide +kernel)) ggX2_count_X0_darkStreets
set_option maxRecDepth 20000 in
theorem ggX2_count_X0_oilOfLamps : GoodIn wsX2_count wsX0_oilOfLamps := goodIn_r _ [34, 35, 36, 57, 58, 59, 60, 61, 62, 63, 64, 65, 66, 67, 68, 69, 70, 71, 72, 73, 41, 42, 43, 44, 45, 46, 47, 48, 49, 50, 51, 52, 53, 54, 55, 56] (by decide +kernel) (by decide +kernel)
set_option maxRecDepth 20000 in
theorem gX2_count_X0_oilOfLamps : GoodIn wsX2_count (wsV RX2 171 RX0 yX0_oilOfLamps wsX0_oilOfLamps) := goodIn_app (goodIn_of _ (by decide +kernel)) ggX2_count_X0_oilOfLamps
theorem dX2_count_0 : decode cX2_count 0 = .ok (.iload_n 1, 1) := by decide +kernel
theorem dX2_count_1 : decode cX2_count 1 = .ok (.bipush 10, 2) := by decide +kernel
theorem dX2_count_3 : decode cX2_count 3 = .ok (.invokestatic 46, 3) := by decide +kernel
theorem dX2_count_6 : decode cX2_count 6 = .ok (.iload_n 1, 1) := by decide +kernel
theorem dX2_count_7 : decode cX2_count 7 = .ok (.tableswitch 133 0 8 #[49, 57, 65, 73, 81, 89, 101, 113, 121], 49) := by decide +kernel
theorem dX2_count_56 : decode cX2_count 56 = .ok (.aload_n 0, 1) := by decide +kernel
theorem dX2_count_57 : decode cX2_count 57 = .ok (.getfield 19, 3) := by decide +kernel
theorem dX2_count_60 : decode cX2_count 60 = .ok (.getfield 158, 3) := by decide +kernel
theorem dX2_count_63 : decode cX2_count 63 = .ok (.ireturn, 1) := by decide +kernel
theorem dX2_count_64 : decode cX2_count 64 = .ok (.aload_n 0, 1) := by decide +kernel
theorem dX2_count_65 : decode cX2_count 65 = .ok (.getfield 19, 3) := by decide +kernel
theorem dX2_count_68 : decode cX2_count 68 = .ok (.getfield 161, 3) := by decide +kernel
theorem dX2_count_71 : decode cX2_count 71 = .ok (.ireturn, 1) := by decide +kernel
theorem dX2_count_72 : decode cX2_count 72 = .ok (.aload_n 0, 1) := by decide +kernel
theorem dX2_count_73 : decode cX2_count 73 = .ok (.getfield 12, 3) := by decide +kernel
theorem dX2_count_76 : decode cX2_count 76 = .ok (.getfield 34, 3) := by decide +kernel
theorem dX2_count_79 : decode cX2_count 79 = .ok (.ireturn, 1) := by decide +kernel
theorem dX2_count_80 : decode cX2_count 80 = .ok (.aload_n 0, 1) := by decide +kernel
theorem dX2_count_81 : decode cX2_count 81 = .ok (.getfield 12, 3) := by decide +kernel
theorem dX2_count_84 : decode cX2_count 84 = .ok (.getfield 56, 3) := by decide +kernel
theorem dX2_count_87 : decode cX2_count 87 = .ok (.ireturn, 1) := by decide +kernel
theorem dX2_count_88 : decode cX2_count 88 = .ok (.aload_n 0, 1) := by decide +kernel
theorem dX2_count_89 : decode cX2_count 89 = .ok (.getfield 12, 3) := by decide +kernel
theorem dX2_count_92 : decode cX2_count 92 = .ok (.getfield 63, 3) := by decide +kernel
theorem dX2_count_95 : decode cX2_count 95 = .ok (.ireturn, 1) := by decide +kernel
theorem dX2_count_96 : decode cX2_count 96 = .ok (.aload_n 0, 1) := by decide +kernel
theorem dX2_count_97 : decode cX2_count 97 = .ok (.getfield 19, 3) := by decide +kernel
theorem dX2_count_100 : decode cX2_count 100 = .ok (.aload_n 0, 1) := by decide +kernel
theorem dX2_count_101 : decode cX2_count 101 = .ok (.getfield 12, 3) := by decide +kernel
theorem dX2_count_104 : decode cX2_count 104 = .ok (.invokevirtual 164, 3) := by decide +kernel
theorem dX2_count_107 : decode cX2_count 107 = .ok (.ireturn, 1) := by decide +kernel
theorem dX2_count_108 : decode cX2_count 108 = .ok (.aload_n 0, 1) := by decide +kernel
theorem dX2_count_109 : decode cX2_count 109 = .ok (.getfield 19, 3) := by decide +kernel
theorem dX2_count_112 : decode cX2_count 112 = .ok (.aload_n 0, 1) := by decide +kernel
theorem dX2_count_113 : decode cX2_count 113 = .ok (.getfield 12, 3) := by decide +kernel
theorem dX2_count_116 : decode cX2_count 116 = .ok (.invokevirtual 168, 3) := by decide +kernel
theorem dX2_count_119 : decode cX2_count 119 = .ok (.ireturn, 1) := by decide +kernel
theorem dX2_count_120 : decode cX2_count 120 = .ok (.aload_n 0, 1) := by decide +kernel
theorem dX2_count_121 : decode cX2_count 121 = .ok (.getfield 12, 3) := by decide +kernel
theorem dX2_count_124 : decode cX2_count 124 = .ok (.getfield 76, 3) := by decide +kernel
theorem dX2_count_127 : decode cX2_count 127 = .ok (.ireturn, 1) := by decide +kernel
theorem dX2_count_128 : decode cX2_count 128 = .ok (.aload_n 0, 1) := by decide +kernel
theorem dX2_count_129 : decode cX2_count 129 = .ok (.getfield 19, 3) := by decide +kernel
theorem dX2_count_132 : decode cX2_count 132 = .ok (.aload_n 0, 1) := by decide +kernel
theorem dX2_count_133 : decode cX2_count 133 = .ok (.getfield 12, 3) := by decide +kernel
theorem dX2_count_136 : decode cX2_count 136 = .ok (.invokevirtual 171, 3) := by decide +kernel
theorem dX2_count_139 : decode cX2_count 139 = .ok (.ireturn, 1) := by decide +kernel
theorem dX2_count_140 : decode cX2_count 140 = .ok (.aload_n 0, 1) := by decide +kernel
theorem dX2_count_141 : decode cX2_count 141 = .ok (.getfield 19, 3) := by decide +kernel
theorem dX2_count_144 : decode cX2_count 144 = .ok (.getfield 174, 3) := by decide +kernel
theorem dX2_count_147 : decode cX2_count 147 = .ok (.ireturn, 1) := by decide +kernel
set_option maxRecDepth 20000 in
theorem ggX2_pass_X2_requireRange : GoodIn wsX2_pass wsX2_requireRange := goodIn_ca (goodIn_r _ [6, 7, 8] (by decide +kernel) (by decide +kernel)) (goodIn_sub (fun _ h => List.mem_cons_of_mem _ (List.mem_append_right _ h)) (by decide +kernel))
set_option maxRecDepth 20000 in
theorem gX2_pass_X2_requireRange : GoodIn wsX2_pass (va_wsS RX2 30 yX2_requireRange wsX2_requireRange) := goodIn_app (goodIn_of _ (by decide +kernel)) ggX2_pass_X2_requireRange
set_option maxRecDepth 20000 in
theorem ggX2_pass_X0_goBy : GoodIn wsX2_pass wsX0_goBy := goodIn_r _ [13, 14, 15, 16, 17, 18, 12, 19, 20, 21, 22, 23, 24, 25, 26, 27, 28, 29, 30, 31, 32, 33, 34, 35, 36, 37, 38, 39, 40, 41, 42, 43, 44, 45, 46, 47, 48, 49, 50, 51, 52, 53, 54, 55, 56, 57, 58, 59, 60, 61, 62, 63, 64, 65, 66, 67, 68, 69, 70, 71, 72, 73, 74, 75, 76, 77, 78, 79, 80, 81, 82, 83, 84, 85, 86, 87, 88, 89, 90, 91, 92, 93, 94, 95, 96, 97, 98, 99, 100, 101, 102, 103, 104, 105, 110, 111, 112, 113, 114, 115, 116, 117, 118, 119, 120, 121, 122, 123, 124, 125, 126, 127, 128, 129, 130, 131, 132, 133, 134, 135, 136, 137, 138, 139, 140, 141, 142] (by decide +kernel) (by decide +kernel)
set_option maxRecDepth 20000 in
theorem gX2_pass_X0_goBy : GoodIn wsX2_pass (wsV RX2 177 RX0 yX0_goBy wsX0_goBy) := goodIn_app (goodIn_of _ (by decide +kernel)) ggX2_pass_X0_goBy
theorem dX2_pass_0 : decode cX2_pass 0 = .ok (.iload_n 1, 1) := by decide +kernel
theorem dX2_pass_1 : decode cX2_pass 1 = .ok (.iconst 1, 1) := by decide +kernel
theorem dX2_pass_2 : decode cX2_pass 2 = .ok (.sipush 600, 3) := by decide +kernel
theorem dX2_pass_5 : decode cX2_pass 5 = .ok (.invokestatic 30, 3) := by decide +kernel
theorem dX2_pass_8 : decode cX2_pass 8 = .ok (.aload_n 0, 1) := by decide +kernel
theorem dX2_pass_9 : decode cX2_pass 9 = .ok (.getfield 19, 3) := by decide +kernel
theorem dX2_pass_12 : decode cX2_pass 12 = .ok (.aload_n 0, 1) := by decide +kernel
theorem dX2_pass_13 : decode cX2_pass 13 = .ok (.getfield 12, 3) := by decide +kernel
theorem dX2_pass_16 : decode cX2_pass 16 = .ok (.iload_n 1, 1) := by decide +kernel
theorem dX2_pass_17 : decode cX2_pass 17 = .ok (.invokevirtual 177, 3) := by decide +kernel
theorem dX2_pass_20 : decode cX2_pass 20 = .ok (.ireturn, 1) := by decide +kernel
set_option maxRecDepth 20000 in
theorem ggX2_dawn_X0_burningLamps : GoodIn wsX2_dawn wsX0_burningLamps := goodIn_r _ [10, 11, 12, 60, 61, 62, 63, 64, 65, 66, 67, 68, 69, 70, 71, 72, 73, 74, 75, 76, 44, 45, 46, 47, 48, 49, 50, 51, 52, 53, 54, 55, 56, 57, 58, 59] (by decide +kernel) (by decide +kernel)
set_option maxRecDepth 20000 in
theorem gX2_dawn_X0_burningLamps : GoodIn wsX2_dawn (wsV RX2 164 RX0 yX0_burningLamps wsX0_burningLamps) := goodIn_app (goodIn_of _ (by decide +kernel)) ggX2_dawn_X0_burningLamps
set_option maxRecDepth 20000 in
theorem ggX2_dawn_X0_beginNext : GoodIn wsX2_dawn wsX0_beginNext := goodIn_r _ [16, 17, 18, 19, 20, 21, 22, 23, 24, 9, 25, 12, 26, 27, 28, 29, 30, 31, 32, 33, 34, 35, 36, 37, 38, 39, 44, 45, 46, 47, 48, 49, 50, 51, 52, 53, 54, 55, 56, 57, 58, 59, 60, 61, 62, 63, 64, 65, 66, 67, 68, 69, 70, 71, 72, 73, 74, 75, 76] (by decide +kernel) (by decide +kernel)
set_option maxRecDepth 20000 in
theorem gX2_dawn_X0_beginNext : GoodIn wsX2_dawn (wsV RX2 182 RX0 yX0_beginNext wsX0_beginNext) := goodIn_app (goodIn_of _ (by decide +kernel)) ggX2_dawn_X0_beginNext
theorem dX2_dawn_0 : decode cX2_dawn 0 = .ok (.aload_n 0, 1) := by decide +kernel
theorem dX2_dawn_1 : decode cX2_dawn 1 = .ok (.getfield 19, 3) := by decide +kernel
theorem dX2_dawn_4 : decode cX2_dawn 4 = .ok (.getfield 158, 3) := by decide +kernel
theorem dX2_dawn_7 : decode cX2_dawn 7 = .ok (.sipush 600, 3) := by decide +kernel
theorem dX2_dawn_10 : decode cX2_dawn 10 = .ok (.if_icmp .ge 13, 3) := by decide +kernel
theorem dX2_dawn_13 : decode cX2_dawn 13 = .ok (.new 93, 3) := by decide +kernel
theorem dX2_dawn_16 : decode cX2_dawn 16 = .ok (.dup, 1) := by decide +kernel
theorem dX2_dawn_17 : decode cX2_dawn 17 = .ok (.ldc 180, 2) := by decide +kernel
theorem dX2_dawn_19 : decode cX2_dawn 19 = .ok (.invokespecial 97, 3) := by decide +kernel
theorem dX2_dawn_22 : decode cX2_dawn 22 = .ok (.athrow, 1) := by decide +kernel
theorem dX2_dawn_23 : decode cX2_dawn 23 = .ok (.aload_n 0, 1) := by decide +kernel
theorem dX2_dawn_24 : decode cX2_dawn 24 = .ok (.getfield 19, 3) := by decide +kernel
theorem dX2_dawn_27 : decode cX2_dawn 27 = .ok (.aload_n 0, 1) := by decide +kernel
theorem dX2_dawn_28 : decode cX2_dawn 28 = .ok (.getfield 12, 3) := by decide +kernel
theorem dX2_dawn_31 : decode cX2_dawn 31 = .ok (.invokevirtual 164, 3) := by decide +kernel
theorem dX2_dawn_34 : decode cX2_dawn 34 = .ok (.istore_n 1, 1) := by decide +kernel
theorem dX2_dawn_35 : decode cX2_dawn 35 = .ok (.aload_n 0, 1) := by decide +kernel
theorem dX2_dawn_36 : decode cX2_dawn 36 = .ok (.getfield 19, 3) := by decide +kernel
theorem dX2_dawn_39 : decode cX2_dawn 39 = .ok (.aload_n 0, 1) := by decide +kernel
theorem dX2_dawn_40 : decode cX2_dawn 40 = .ok (.getfield 12, 3) := by decide +kernel
theorem dX2_dawn_43 : decode cX2_dawn 43 = .ok (.invokevirtual 182, 3) := by decide +kernel
theorem dX2_dawn_46 : decode cX2_dawn 46 = .ok (.iload_n 1, 1) := by decide +kernel
theorem dX2_dawn_47 : decode cX2_dawn 47 = .ok (.ireturn, 1) := by decide +kernel
set_option maxRecDepth 20000 in
theorem ggX2_comes_X2_requireIndex : GoodIn wsX2_comes wsX2_requireIndex := goodIn_ca (goodIn_r _ [10, 11, 12] (by decide +kernel) (by decide +kernel)) (goodIn_sub (fun _ h => List.mem_cons_of_mem _ (List.mem_append_right _ h)) (by decide +kernel))
set_option maxRecDepth 20000 in
theorem gX2_comes_X2_requireIndex : GoodIn wsX2_comes (va_wsS RX2 46 yX2_requireIndex wsX2_requireIndex) := goodIn_app (goodIn_of _ (by decide +kernel)) ggX2_comes_X2_requireIndex
set_option maxRecDepth 20000 in
theorem ggX2_comes_X0_copy : GoodIn wsX2_comes wsX0_copy := goodIn_r _ [17, 18, 19, 20, 21, 22, 23, 24, 25, 26, 27, 28, 29, 30, 31, 32, 33, 34, 35, 36, 37, 140, 141, 142, 143, 144, 145, 146, 147, 148, 149, 150, 151, 152, 153, 154, 155] (by decide +kernel) (by decide +kernel)
set_option maxRecDepth 20000 in
theorem gX2_comes_X0_copy : GoodIn wsX2_comes (wsV RX2 186 RX0 yX0_copy wsX0_copy) := goodIn_app (goodIn_of _ (by decide +kernel)) ggX2_comes_X0_copy
set_option maxRecDepth 20000 in
theorem ggX2_comes_X0_goBy : GoodIn wsX2_comes wsX0_goBy := goodIn_r _ [41, 18, 42, 43, 44, 45, 16, 46, 47, 33, 35, 48, 49, 50, 51, 52, 32, 26, 36, 34, 31, 53, 54, 55, 56, 57, 58, 28, 59, 60, 61, 62, 63, 64, 65, 66, 67, 68, 69, 70, 71, 72, 73, 74, 75, 76, 77, 78, 79, 80, 81, 82, 83, 84, 85, 86, 87, 27, 21, 88, 29, 37, 89, 90, 91, 92, 93, 94, 95, 96, 97, 98, 99, 100, 101, 20, 102, 103, 104, 105, 106, 107, 108, 109, 110, 30, 111, 112, 113, 114, 115, 116, 117, 118, 140, 141, 142, 143, 144, 145, 146, 147, 148, 149, 150, 151, 152, 153, 154, 155, 123, 124, 125, 126, 127, 128, 129, 130, 131, 132, 133, 134, 135, 136, 137, 138, 139] (by decide +kernel) (by decide +kernel)
set_option maxRecDepth 20000 in
theorem gX2_comes_X0_goBy : GoodIn wsX2_comes (wsV RX2 177 RX0 yX0_goBy wsX0_goBy) := goodIn_app (goodIn_of _ (by decide +kernel)) ggX2_comes_X0_goBy
theorem dX2_comes_0 : decode cX2_comes 0 = .ok (.iload_n 1, 1) := by decide +kernel
theorem dX2_comes_1 : decode cX2_comes 1 = .ok (.aload_n 0, 1) := by decide +kernel
theorem dX2_comes_2 : decode cX2_comes 2 = .ok (.getfield 12, 3) := by decide +kernel
theorem dX2_comes_5 : decode cX2_comes 5 = .ok (.getfield 63, 3) := by decide +kernel
theorem dX2_comes_8 : decode cX2_comes 8 = .ok (.invokestatic 46, 3) := by decide +kernel
theorem dX2_comes_11 : decode cX2_comes 11 = .ok (.aload_n 0, 1) := by decide +kernel
theorem dX2_comes_12 : decode cX2_comes 12 = .ok (.getfield 23, 3) := by decide +kernel
theorem dX2_comes_15 : decode cX2_comes 15 = .ok (.aload_n 0, 1) := by decide +kernel
theorem dX2_comes_16 : decode cX2_comes 16 = .ok (.getfield 19, 3) := by decide +kernel
theorem dX2_comes_19 : decode cX2_comes 19 = .ok (.invokevirtual 186, 3) := by decide +kernel
theorem dX2_comes_22 : decode cX2_comes 22 = .ok (.sipush 600, 3) := by decide +kernel
theorem dX2_comes_25 : decode cX2_comes 25 = .ok (.aload_n 0, 1) := by decide +kernel
theorem dX2_comes_26 : decode cX2_comes 26 = .ok (.getfield 19, 3) := by decide +kernel
theorem dX2_comes_29 : decode cX2_comes 29 = .ok (.getfield 158, 3) := by decide +kernel
theorem dX2_comes_32 : decode cX2_comes 32 = .ok (.isub, 1) := by decide +kernel
theorem dX2_comes_33 : decode cX2_comes 33 = .ok (.istore_n 2, 1) := by decide +kernel
theorem dX2_comes_34 : decode cX2_comes 34 = .ok (.iconst 1, 1) := by decide +kernel
theorem dX2_comes_35 : decode cX2_comes 35 = .ok (.istore_n 3, 1) := by decide +kernel
theorem dX2_comes_36 : decode cX2_comes 36 = .ok (.iload_n 3, 1) := by decide +kernel
theorem dX2_comes_37 : decode cX2_comes 37 = .ok (.iload_n 2, 1) := by decide +kernel
theorem dX2_comes_38 : decode cX2_comes 38 = .ok (.if_icmp .gt 45, 3) := by decide +kernel
theorem dX2_comes_41 : decode cX2_comes 41 = .ok (.aload_n 0, 1) := by decide +kernel
theorem dX2_comes_42 : decode cX2_comes 42 = .ok (.getfield 23, 3) := by decide +kernel
theorem dX2_comes_45 : decode cX2_comes 45 = .ok (.aload_n 0, 1) := by decide +kernel
theorem dX2_comes_46 : decode cX2_comes 46 = .ok (.getfield 12, 3) := by decide +kernel
theorem dX2_comes_49 : decode cX2_comes 49 = .ok (.iconst 1, 1) := by decide +kernel
theorem dX2_comes_50 : decode cX2_comes 50 = .ok (.invokevirtual 177, 3) := by decide +kernel
theorem dX2_comes_53 : decode cX2_comes 53 = .ok (.pop, 1) := by decide +kernel
theorem dX2_comes_54 : decode cX2_comes 54 = .ok (.aload_n 0, 1) := by decide +kernel
theorem dX2_comes_55 : decode cX2_comes 55 = .ok (.getfield 23, 3) := by decide +kernel
theorem dX2_comes_58 : decode cX2_comes 58 = .ok (.getfield 134, 3) := by decide +kernel
theorem dX2_comes_61 : decode cX2_comes 61 = .ok (.iload_n 1, 1) := by decide +kernel
theorem dX2_comes_62 : decode cX2_comes 62 = .ok (.iaload, 1) := by decide +kernel
theorem dX2_comes_63 : decode cX2_comes 63 = .ok (.aload_n 0, 1) := by decide +kernel
theorem dX2_comes_64 : decode cX2_comes 64 = .ok (.getfield 19, 3) := by decide +kernel
theorem dX2_comes_67 : decode cX2_comes 67 = .ok (.getfield 134, 3) := by decide +kernel
theorem dX2_comes_70 : decode cX2_comes 70 = .ok (.iload_n 1, 1) := by decide +kernel
theorem dX2_comes_71 : decode cX2_comes 71 = .ok (.iaload, 1) := by decide +kernel
theorem dX2_comes_72 : decode cX2_comes 72 = .ok (.if_icmp .eq 5, 3) := by decide +kernel
theorem dX2_comes_75 : decode cX2_comes 75 = .ok (.iload_n 3, 1) := by decide +kernel
theorem dX2_comes_76 : decode cX2_comes 76 = .ok (.ireturn, 1) := by decide +kernel
theorem dX2_comes_77 : decode cX2_comes 77 = .ok (.iinc 3 1, 3) := by decide +kernel
theorem dX2_comes_80 : decode cX2_comes 80 = .ok (.goto (-44), 3) := by decide +kernel
theorem dX2_comes_83 : decode cX2_comes 83 = .ok (.iconst (-1), 1) := by decide +kernel
theorem dX2_comes_84 : decode cX2_comes 84 = .ok (.ireturn, 1) := by decide +kernel
set_option maxRecDepth 20000 in
theorem ggX2_darkest_X2_clearDarkMinutes : GoodIn wsX2_darkest wsX2_clearDarkMinutes := goodIn_r _ [9, 10, 130, 131, 132, 133] (by decide +kernel) (by decide +kernel)
set_option maxRecDepth 20000 in
theorem gX2_darkest_X2_clearDarkMinutes : GoodIn wsX2_darkest (wsV RX2 190 RX2 yX2_clearDarkMinutes wsX2_clearDarkMinutes) := goodIn_app (goodIn_of _ (by decide +kernel)) ggX2_darkest_X2_clearDarkMinutes
set_option maxRecDepth 20000 in
theorem ggX2_darkest_X0_copy : GoodIn wsX2_darkest wsX0_copy := goodIn_r _ [15, 16, 17, 18, 19, 20, 21, 22, 23, 24, 25, 26, 27, 28, 29, 30, 31, 32, 33, 34, 35, 134, 135, 136, 137, 138, 139, 140, 141, 142, 143, 144, 145, 146, 147, 148, 149] (by decide +kernel) (by decide +kernel)
set_option maxRecDepth 20000 in
theorem gX2_darkest_X0_copy : GoodIn wsX2_darkest (wsV RX2 186 RX0 yX0_copy wsX0_copy) := goodIn_app (goodIn_of _ (by decide +kernel)) ggX2_darkest_X0_copy
set_option maxRecDepth 20000 in
theorem ggX2_darkest_X0_goBy : GoodIn wsX2_darkest wsX0_goBy := goodIn_r _ [39, 16, 40, 41, 42, 43, 14, 44, 45, 31, 33, 46, 47, 48, 49, 50, 30, 24, 34, 32, 29, 51, 52, 53, 54, 55, 56, 26, 57, 58, 59, 60, 61, 62, 63, 64, 65, 66, 67, 68, 69, 70, 71, 72, 73, 74, 75, 76, 77, 78, 79, 80, 81, 82, 83, 84, 85, 25, 19, 86, 27, 35, 87, 88, 89, 90, 91, 92, 93, 94, 95, 96, 97, 98, 99, 18, 100, 101, 102, 103, 104, 105, 106, 107, 108, 28, 109, 110, 111, 112, 113, 114, 115, 116, 134, 135, 136, 137, 138, 139, 140, 141, 142, 143, 144, 145, 146, 147, 148, 149, 150, 151, 152, 153, 154, 155, 156, 157, 158, 159, 160, 161, 162, 163, 164, 165, 166] (by decide +kernel) (by decide +kernel)
set_option maxRecDepth 20000 in
theorem gX2_darkest_X0_goBy : GoodIn wsX2_darkest (wsV RX2 177 RX0 yX0_goBy wsX0_goBy) := goodIn_app (goodIn_of _ (by decide +kernel)) ggX2_darkest_X0_goBy
set_option maxRecDepth 20000 in
theorem ggX2_darkest_X2_addDarkMinute : GoodIn wsX2_darkest wsX2_addDarkMinute := goodIn_r _ [120, 4, 121, 1, 10, 122, 123, 124, 14, 125, 19, 130, 131, 132, 133, 150, 151, 152, 153, 154, 155, 156, 157, 158, 159, 160, 161, 162, 163, 164, 165, 166, 134, 135, 136, 137, 138, 139, 140, 141, 142, 143, 144, 145, 146, 147, 148, 149] (by decide +kernel) (by decide +kernel)
set_option maxRecDepth 20000 in
theorem gX2_darkest_X2_addDarkMinute : GoodIn wsX2_darkest (wsV RX2 193 RX2 yX2_addDarkMinute wsX2_addDarkMinute) := goodIn_app (goodIn_of _ (by decide +kernel)) ggX2_darkest_X2_addDarkMinute
set_option maxRecDepth 20000 in
theorem ggX2_darkest_X2_streetOfMostDarkMinutes : GoodIn wsX2_darkest wsX2_streetOfMostDarkMinutes := goodIn_r _ [129, 4, 121, 10, 130, 131, 132, 133, 150, 151, 152, 153, 154, 155, 156, 157, 158, 159, 160, 161, 162, 163, 164, 165, 166] (by decide +kernel) (by decide +kernel)
set_option maxRecDepth 20000 in
theorem gX2_darkest_X2_streetOfMostDarkMinutes : GoodIn wsX2_darkest (wsV RX2 196 RX2 yX2_streetOfMostDarkMinutes wsX2_streetOfMostDarkMinutes) := goodIn_app (goodIn_of _ (by decide +kernel)) ggX2_darkest_X2_streetOfMostDarkMinutes
theorem dX2_darkest_0 : decode cX2_darkest 0 = .ok (.aload_n 0, 1) := by decide +kernel
theorem dX2_darkest_1 : decode cX2_darkest 1 = .ok (.invokevirtual 190, 3) := by decide +kernel
theorem dX2_darkest_4 : decode cX2_darkest 4 = .ok (.aload_n 0, 1) := by decide +kernel
theorem dX2_darkest_5 : decode cX2_darkest 5 = .ok (.getfield 23, 3) := by decide +kernel
theorem dX2_darkest_8 : decode cX2_darkest 8 = .ok (.aload_n 0, 1) := by decide +kernel
theorem dX2_darkest_9 : decode cX2_darkest 9 = .ok (.getfield 19, 3) := by decide +kernel
theorem dX2_darkest_12 : decode cX2_darkest 12 = .ok (.invokevirtual 186, 3) := by decide +kernel
theorem dX2_darkest_15 : decode cX2_darkest 15 = .ok (.sipush 600, 3) := by decide +kernel
theorem dX2_darkest_18 : decode cX2_darkest 18 = .ok (.aload_n 0, 1) := by decide +kernel
theorem dX2_darkest_19 : decode cX2_darkest 19 = .ok (.getfield 19, 3) := by decide +kernel
theorem dX2_darkest_22 : decode cX2_darkest 22 = .ok (.getfield 158, 3) := by decide +kernel
theorem dX2_darkest_25 : decode cX2_darkest 25 = .ok (.isub, 1) := by decide +kernel
theorem dX2_darkest_26 : decode cX2_darkest 26 = .ok (.istore_n 1, 1) := by decide +kernel
theorem dX2_darkest_27 : decode cX2_darkest 27 = .ok (.iconst 1, 1) := by decide +kernel
theorem dX2_darkest_28 : decode cX2_darkest 28 = .ok (.istore_n 2, 1) := by decide +kernel
theorem dX2_darkest_29 : decode cX2_darkest 29 = .ok (.iload_n 2, 1) := by decide +kernel
theorem dX2_darkest_30 : decode cX2_darkest 30 = .ok (.iload_n 1, 1) := by decide +kernel
theorem dX2_darkest_31 : decode cX2_darkest 31 = .ok (.if_icmp .gt 26, 3) := by decide +kernel
theorem dX2_darkest_34 : decode cX2_darkest 34 = .ok (.aload_n 0, 1) := by decide +kernel
theorem dX2_darkest_35 : decode cX2_darkest 35 = .ok (.getfield 23, 3) := by decide +kernel
theorem dX2_darkest_38 : decode cX2_darkest 38 = .ok (.aload_n 0, 1) := by decide +kernel
theorem dX2_darkest_39 : decode cX2_darkest 39 = .ok (.getfield 12, 3) := by decide +kernel
theorem dX2_darkest_42 : decode cX2_darkest 42 = .ok (.iconst 1, 1) := by decide +kernel
theorem dX2_darkest_43 : decode cX2_darkest 43 = .ok (.invokevirtual 177, 3) := by decide +kernel
theorem dX2_darkest_46 : decode cX2_darkest 46 = .ok (.pop, 1) := by decide +kernel
theorem dX2_darkest_47 : decode cX2_darkest 47 = .ok (.aload_n 0, 1) := by decide +kernel
theorem dX2_darkest_48 : decode cX2_darkest 48 = .ok (.invokevirtual 193, 3) := by decide +kernel
theorem dX2_darkest_51 : decode cX2_darkest 51 = .ok (.iinc 2 1, 3) := by decide +kernel
theorem dX2_darkest_54 : decode cX2_darkest 54 = .ok (.goto (-25), 3) := by decide +kernel
theorem dX2_darkest_57 : decode cX2_darkest 57 = .ok (.aload_n 0, 1) := by decide +kernel
theorem dX2_darkest_58 : decode cX2_darkest 58 = .ok (.invokevirtual 196, 3) := by decide +kernel
theorem dX2_darkest_61 : decode cX2_darkest 61 = .ok (.ireturn, 1) := by decide +kernel
set_option maxRecDepth 20000 in
theorem ggX2_needs_X2_requireIndex : GoodIn wsX2_needs wsX2_requireIndex := goodIn_ca (goodIn_r _ [11, 12, 13] (by decide +kernel) (by decide +kernel)) (goodIn_sub (fun _ h => List.mem_cons_of_mem _ (List.mem_append_right _ h)) (by decide +kernel))
set_option maxRecDepth 20000 in
theorem gX2_needs_X2_requireIndex : GoodIn wsX2_needs (va_wsS RX2 46 yX2_requireIndex wsX2_requireIndex) := goodIn_app (goodIn_of _ (by decide +kernel)) ggX2_needs_X2_requireIndex
set_option maxRecDepth 20000 in
theorem ggX2_needs_X1_windAtLamp : GoodIn wsX2_needs wsX1_windAtLamp := goodIn_r _ [18, 19, 20, 21, 22, 23, 5, 6, 7, 28, 29, 30, 31, 32, 33, 34, 35, 36, 37, 38, 39, 40, 41, 42, 43, 44] (by decide +kernel) (by decide +kernel)
set_option maxRecDepth 20000 in
theorem gX2_needs_X1_windAtLamp : GoodIn wsX2_needs (wsV RX2 203 RX1 yX1_windAtLamp wsX1_windAtLamp) := goodIn_app (goodIn_of _ (by decide +kernel)) ggX2_needs_X1_windAtLamp
theorem dX2_needs_0 : decode cX2_needs 0 = .ok (.iload_n 1, 1) := by decide +kernel
theorem dX2_needs_1 : decode cX2_needs 1 = .ok (.aload_n 0, 1) := by decide +kernel
theorem dX2_needs_2 : decode cX2_needs 2 = .ok (.getfield 12, 3) := by decide +kernel
theorem dX2_needs_5 : decode cX2_needs 5 = .ok (.getfield 63, 3) := by decide +kernel
theorem dX2_needs_8 : decode cX2_needs 8 = .ok (.invokestatic 46, 3) := by decide +kernel
theorem dX2_needs_11 : decode cX2_needs 11 = .ok (.iconst 0, 1) := by decide +kernel
theorem dX2_needs_12 : decode cX2_needs 12 = .ok (.istore_n 2, 1) := by decide +kernel
theorem dX2_needs_13 : decode cX2_needs 13 = .ok (.iconst 0, 1) := by decide +kernel
theorem dX2_needs_14 : decode cX2_needs 14 = .ok (.istore_n 3, 1) := by decide +kernel
theorem dX2_needs_15 : decode cX2_needs 15 = .ok (.iload_n 3, 1) := by decide +kernel
theorem dX2_needs_16 : decode cX2_needs 16 = .ok (.bipush 10, 2) := by decide +kernel
theorem dX2_needs_18 : decode cX2_needs 18 = .ok (.if_icmp .ge 23, 3) := by decide +kernel
theorem dX2_needs_21 : decode cX2_needs 21 = .ok (.iload_n 2, 1) := by decide +kernel
theorem dX2_needs_22 : decode cX2_needs 22 = .ok (.aload_n 0, 1) := by decide +kernel
theorem dX2_needs_23 : decode cX2_needs 23 = .ok (.getfield 12, 3) := by decide +kernel
theorem dX2_needs_26 : decode cX2_needs 26 = .ok (.getfield 73, 3) := by decide +kernel
theorem dX2_needs_29 : decode cX2_needs 29 = .ok (.iload_n 3, 1) := by decide +kernel
theorem dX2_needs_30 : decode cX2_needs 30 = .ok (.iaload, 1) := by decide +kernel
theorem dX2_needs_31 : decode cX2_needs 31 = .ok (.invokestatic 200, 3) := by decide +kernel
theorem dX2_needs_34 : decode cX2_needs 34 = .ok (.istore_n 2, 1) := by decide +kernel
theorem dX2_needs_35 : decode cX2_needs 35 = .ok (.iinc 3 1, 3) := by decide +kernel
theorem dX2_needs_38 : decode cX2_needs 38 = .ok (.goto (-23), 3) := by decide +kernel
theorem dX2_needs_41 : decode cX2_needs 41 = .ok (.iconst 0, 1) := by decide +kernel
theorem dX2_needs_42 : decode cX2_needs 42 = .ok (.aload_n 0, 1) := by decide +kernel
theorem dX2_needs_43 : decode cX2_needs 43 = .ok (.getfield 12, 3) := by decide +kernel
theorem dX2_needs_46 : decode cX2_needs 46 = .ok (.iload_n 1, 1) := by decide +kernel
theorem dX2_needs_47 : decode cX2_needs 47 = .ok (.iload_n 2, 1) := by decide +kernel
theorem dX2_needs_48 : decode cX2_needs 48 = .ok (.invokevirtual 203, 3) := by decide +kernel
theorem dX2_needs_51 : decode cX2_needs 51 = .ok (.iconst 4, 1) := by decide +kernel
theorem dX2_needs_52 : decode cX2_needs 52 = .ok (.isub, 1) := by decide +kernel
theorem dX2_needs_53 : decode cX2_needs 53 = .ok (.invokestatic 200, 3) := by decide +kernel
theorem dX2_needs_56 : decode cX2_needs 56 = .ok (.istore_n 3, 1) := by decide +kernel
theorem dX2_needs_57 : decode cX2_needs 57 = .ok (.iload_n 3, 1) := by decide +kernel
theorem dX2_needs_58 : decode cX2_needs 58 = .ok (.bipush 9, 2) := by decide +kernel
theorem dX2_needs_60 : decode cX2_needs 60 = .ok (.if_icmp .gt 7, 3) := by decide +kernel
theorem dX2_needs_63 : decode cX2_needs 63 = .ok (.iload_n 3, 1) := by decide +kernel
theorem dX2_needs_64 : decode cX2_needs 64 = .ok (.goto 4, 3) := by decide +kernel
theorem dX2_needs_67 : decode cX2_needs 67 = .ok (.iconst (-1), 1) := by decide +kernel
theorem dX2_needs_68 : decode cX2_needs 68 = .ok (.ireturn, 1) := by decide +kernel
set_option maxRecDepth 20000 in
theorem ggX2_foresee_X2_requireRange : GoodIn wsX2_foresee wsX2_requireRange := goodIn_ca (goodIn_r _ [8, 9, 10] (by decide +kernel) (by decide +kernel)) (goodIn_sub (fun _ h => List.mem_cons_of_mem _ (List.mem_append_left _ (List.mem_append_right _ h))) (by decide +kernel))
set_option maxRecDepth 20000 in
theorem gX2_foresee_X2_requireRange : GoodIn wsX2_foresee (va_wsS RX2 30 yX2_requireRange wsX2_requireRange) := goodIn_app (goodIn_of _ (by decide +kernel)) ggX2_foresee_X2_requireRange
set_option maxRecDepth 20000 in
theorem ggX2_foresee_X2_requireIndex : GoodIn wsX2_foresee wsX2_requireIndex := goodIn_ca (goodIn_r _ [13, 14, 15] (by decide +kernel) (by decide +kernel)) (goodIn_sub (fun _ h => List.mem_cons_of_mem _ (List.mem_append_right _ h)) (by decide +kernel))
set_option maxRecDepth 20000 in
theorem gX2_foresee_X2_requireIndex : GoodIn wsX2_foresee (va_wsS RX2 46 yX2_requireIndex wsX2_requireIndex) := goodIn_app (goodIn_of _ (by decide +kernel)) ggX2_foresee_X2_requireIndex
set_option maxRecDepth 20000 in
theorem ggX2_foresee_X0_copy : GoodIn wsX2_foresee wsX0_copy := goodIn_r _ [20, 21, 22, 23, 24, 25, 26, 27, 28, 29, 30, 31, 32, 33, 34, 35, 36, 37, 38, 39, 40, 139, 140, 141, 142, 143, 144, 145, 146, 147, 148, 149, 150, 151, 152, 153, 154] (by decide +kernel) (by decide +kernel)
set_option maxRecDepth 20000 in
theorem gX2_foresee_X0_copy : GoodIn wsX2_foresee (wsV RX2 186 RX0 yX0_copy wsX0_copy) := goodIn_app (goodIn_of _ (by decide +kernel)) ggX2_foresee_X0_copy
set_option maxRecDepth 20000 in
theorem ggX2_foresee_X0_goBy : GoodIn wsX2_foresee wsX0_goBy := goodIn_r _ [44, 21, 45, 46, 47, 48, 19, 49, 50, 36, 38, 51, 52, 53, 54, 55, 35, 29, 39, 37, 34, 56, 57, 58, 59, 60, 61, 31, 62, 63, 64, 65, 66, 67, 68, 69, 70, 71, 72, 73, 74, 75, 76, 77, 78, 79, 80, 81, 82, 83, 84, 85, 86, 87, 88, 89, 90, 30, 24, 91, 32, 40, 92, 93, 94, 95, 96, 97, 98, 99, 100, 101, 102, 103, 104, 23, 105, 106, 107, 108, 109, 110, 111, 112, 113, 33, 114, 115, 116, 117, 118, 119, 120, 121, 139, 140, 141, 142, 143, 144, 145, 146, 147, 148, 149, 150, 151, 152, 153, 154, 155, 156, 157, 158, 159, 160, 161, 162, 163, 164, 165, 166, 167, 168, 169, 170, 171] (by decide +kernel) (by decide +kernel)
set_option maxRecDepth 20000 in
theorem gX2_foresee_X0_goBy : GoodIn wsX2_foresee (wsV RX2 177 RX0 yX0_goBy wsX0_goBy) := goodIn_app (goodIn_of _ (by decide +kernel)) ggX2_foresee_X0_goBy
set_option maxRecDepth 20000 in
theorem ggX2_foresee_X0_burningLamps : GoodIn wsX2_foresee wsX0_burningLamps := goodIn_r _ [125, 126, 24, 155, 156, 157, 158, 159, 160, 161, 162, 163, 164, 165, 166, 167, 168, 169, 170, 171, 139, 140, 141, 142, 143, 144, 145, 146, 147, 148, 149, 150, 151, 152, 153, 154] (by decide +kernel) (by decide +kernel)
set_option maxRecDepth 20000 in
theorem gX2_foresee_X0_burningLamps : GoodIn wsX2_foresee (wsV RX2 164 RX0 yX0_burningLamps wsX0_burningLamps) := goodIn_app (goodIn_of _ (by decide +kernel)) ggX2_foresee_X0_burningLamps
set_option maxRecDepth 20000 in
theorem ggX2_foresee_X0_darkStreets : GoodIn wsX2_foresee wsX0_darkStreets := goodIn_r _ [130, 126, 131, 132, 133, 19, 134, 24, 155, 156, 157, 158, 159, 160, 161, 162, 163, 164, 165, 166, 167, 168, 169, 170, 171, 139, 140, 141, 142, 143, 144, 145, 146, 147, 148, 149, 150, 151, 152, 153, 154] (by decide +kernel) (by decide +kernel)
set_option maxRecDepth 20000 in
theorem gX2_foresee_X0_darkStreets : GoodIn wsX2_foresee (wsV RX2 168 RX0 yX0_darkStreets wsX0_darkStreets) := goodIn_app (goodIn_of _ (by decide +kernel)) ggX2_foresee_X0_darkStreets
theorem dX2_foresee_0 : decode cX2_foresee 0 = .ok (.iload_n 1, 1) := by decide +kernel
theorem dX2_foresee_1 : decode cX2_foresee 1 = .ok (.iconst 1, 1) := by decide +kernel
theorem dX2_foresee_2 : decode cX2_foresee 2 = .ok (.sipush 600, 3) := by decide +kernel
theorem dX2_foresee_5 : decode cX2_foresee 5 = .ok (.invokestatic 30, 3) := by decide +kernel
theorem dX2_foresee_8 : decode cX2_foresee 8 = .ok (.iload_n 2, 1) := by decide +kernel
theorem dX2_foresee_9 : decode cX2_foresee 9 = .ok (.iconst 3, 1) := by decide +kernel
theorem dX2_foresee_10 : decode cX2_foresee 10 = .ok (.invokestatic 46, 3) := by decide +kernel
theorem dX2_foresee_13 : decode cX2_foresee 13 = .ok (.aload_n 0, 1) := by decide +kernel
theorem dX2_foresee_14 : decode cX2_foresee 14 = .ok (.getfield 23, 3) := by decide +kernel
theorem dX2_foresee_17 : decode cX2_foresee 17 = .ok (.aload_n 0, 1) := by decide +kernel
theorem dX2_foresee_18 : decode cX2_foresee 18 = .ok (.getfield 19, 3) := by decide +kernel
theorem dX2_foresee_21 : decode cX2_foresee 21 = .ok (.invokevirtual 186, 3) := by decide +kernel
theorem dX2_foresee_24 : decode cX2_foresee 24 = .ok (.aload_n 0, 1) := by decide +kernel
theorem dX2_foresee_25 : decode cX2_foresee 25 = .ok (.getfield 23, 3) := by decide +kernel
theorem dX2_foresee_28 : decode cX2_foresee 28 = .ok (.aload_n 0, 1) := by decide +kernel
theorem dX2_foresee_29 : decode cX2_foresee 29 = .ok (.getfield 12, 3) := by decide +kernel
theorem dX2_foresee_32 : decode cX2_foresee 32 = .ok (.iload_n 1, 1) := by decide +kernel
theorem dX2_foresee_33 : decode cX2_foresee 33 = .ok (.invokevirtual 177, 3) := by decide +kernel
theorem dX2_foresee_36 : decode cX2_foresee 36 = .ok (.pop, 1) := by decide +kernel
theorem dX2_foresee_37 : decode cX2_foresee 37 = .ok (.iload_n 2, 1) := by decide +kernel
theorem dX2_foresee_38 : decode cX2_foresee 38 = .ok (.lookupswitch 50 #[(0, 26), (1, 38)], 26) := by decide +kernel
theorem dX2_foresee_64 : decode cX2_foresee 64 = .ok (.aload_n 0, 1) := by decide +kernel
theorem dX2_foresee_65 : decode cX2_foresee 65 = .ok (.getfield 23, 3) := by decide +kernel
theorem dX2_foresee_68 : decode cX2_foresee 68 = .ok (.aload_n 0, 1) := by decide +kernel
theorem dX2_foresee_69 : decode cX2_foresee 69 = .ok (.getfield 12, 3) := by decide +kernel
theorem dX2_foresee_72 : decode cX2_foresee 72 = .ok (.invokevirtual 164, 3) := by decide +kernel
theorem dX2_foresee_75 : decode cX2_foresee 75 = .ok (.ireturn, 1) := by decide +kernel
theorem dX2_foresee_76 : decode cX2_foresee 76 = .ok (.aload_n 0, 1) := by decide +kernel
theorem dX2_foresee_77 : decode cX2_foresee 77 = .ok (.getfield 23, 3) := by decide +kernel
theorem dX2_foresee_80 : decode cX2_foresee 80 = .ok (.aload_n 0, 1) := by decide +kernel
theorem dX2_foresee_81 : decode cX2_foresee 81 = .ok (.getfield 12, 3) := by decide +kernel
theorem dX2_foresee_84 : decode cX2_foresee 84 = .ok (.invokevirtual 168, 3) := by decide +kernel
theorem dX2_foresee_87 : decode cX2_foresee 87 = .ok (.ireturn, 1) := by decide +kernel
theorem dX2_foresee_88 : decode cX2_foresee 88 = .ok (.aload_n 0, 1) := by decide +kernel
theorem dX2_foresee_89 : decode cX2_foresee 89 = .ok (.getfield 23, 3) := by decide +kernel
theorem dX2_foresee_92 : decode cX2_foresee 92 = .ok (.getfield 174, 3) := by decide +kernel
theorem dX2_foresee_95 : decode cX2_foresee 95 = .ok (.aload_n 0, 1) := by decide +kernel
theorem dX2_foresee_96 : decode cX2_foresee 96 = .ok (.getfield 19, 3) := by decide +kernel
theorem dX2_foresee_99 : decode cX2_foresee 99 = .ok (.getfield 174, 3) := by decide +kernel
theorem dX2_foresee_102 : decode cX2_foresee 102 = .ok (.isub, 1) := by decide +kernel
theorem dX2_foresee_103 : decode cX2_foresee 103 = .ok (.ireturn, 1) := by decide +kernel
set_option maxRecDepth 20000 in
theorem ggX2_mean_X0_oilOfLamps : GoodIn wsX2_mean wsX0_oilOfLamps := goodIn_r _ [8, 9, 10, 15, 16, 17, 18, 19, 20, 21, 22, 23, 24, 25, 26, 27, 28, 29, 30, 31, 32, 33, 34, 35, 36, 37, 38, 39, 40, 41, 42, 43, 44, 45, 46, 47] (by decide +kernel) (by decide +kernel)
set_option maxRecDepth 20000 in
theorem gX2_mean_X0_oilOfLamps : GoodIn wsX2_mean (wsV RX2 171 RX0 yX0_oilOfLamps wsX0_oilOfLamps) := goodIn_app (goodIn_of _ (by decide +kernel)) ggX2_mean_X0_oilOfLamps
theorem dX2_mean_0 : decode cX2_mean 0 = .ok (.aload_n 0, 1) := by decide +kernel
theorem dX2_mean_1 : decode cX2_mean 1 = .ok (.getfield 12, 3) := by decide +kernel
theorem dX2_mean_4 : decode cX2_mean 4 = .ok (.getfield 63, 3) := by decide +kernel
theorem dX2_mean_7 : decode cX2_mean 7 = .ok (.ifCond .ne 5, 3) := by decide +kernel
theorem dX2_mean_10 : decode cX2_mean 10 = .ok (.dconst 0, 1) := by decide +kernel
theorem dX2_mean_11 : decode cX2_mean 11 = .ok (.dreturn, 1) := by decide +kernel
theorem dX2_mean_12 : decode cX2_mean 12 = .ok (.aload_n 0, 1) := by decide +kernel
theorem dX2_mean_13 : decode cX2_mean 13 = .ok (.getfield 19, 3) := by decide +kernel
theorem dX2_mean_16 : decode cX2_mean 16 = .ok (.aload_n 0, 1) := by decide +kernel
theorem dX2_mean_17 : decode cX2_mean 17 = .ok (.getfield 12, 3) := by decide +kernel
theorem dX2_mean_20 : decode cX2_mean 20 = .ok (.invokevirtual 171, 3) := by decide +kernel
theorem dX2_mean_23 : decode cX2_mean 23 = .ok (.i2d, 1) := by decide +kernel
theorem dX2_mean_24 : decode cX2_mean 24 = .ok (.aload_n 0, 1) := by decide +kernel
theorem dX2_mean_25 : decode cX2_mean 25 = .ok (.getfield 12, 3) := by decide +kernel
theorem dX2_mean_28 : decode cX2_mean 28 = .ok (.getfield 63, 3) := by decide +kernel
theorem dX2_mean_31 : decode cX2_mean 31 = .ok (.i2d, 1) := by decide +kernel
theorem dX2_mean_32 : decode cX2_mean 32 = .ok (.ddiv, 1) := by decide +kernel
theorem dX2_mean_33 : decode cX2_mean 33 = .ok (.dreturn, 1) := by decide +kernel
set_option maxRecDepth 20000 in
theorem ggX2_digest_X2_count : GoodIn wsX2_digest wsX2_count := goodIn_ca (goodIn_r _ [9, 10, 11, 12, 3, 13, 14, 15, 16, 17, 18, 19, 8, 20, 21, 22, 23, 24, 25, 26, 27, 28, 29, 30, 31, 32, 33, 34, 35, 36, 37, 38, 39, 40, 41, 42, 43, 95, 96, 97, 98, 116, 117, 118, 119, 120, 121, 122, 123, 124, 125, 126, 127, 128, 129, 130, 131, 99, 100, 101, 102, 103, 104, 105, 106, 107, 108, 109, 110, 111, 112, 113, 114, 115] (by decide +kernel) (by decide +kernel)) (goodIn_sub (fun _ h => List.mem_cons_of_mem _ (List.mem_append_right _ h)) (by decide +kernel))
set_option maxRecDepth 20000 in
theorem gX2_digest_X2_count : GoodIn wsX2_digest (wsV RX2 210 RX2 yX2_count wsX2_count) := goodIn_app (goodIn_of _ (by decide +kernel)) ggX2_digest_X2_count
set_option maxRecDepth 20000 in
theorem ggX2_digest_X2_digestStreets : GoodIn wsX2_digest wsX2_digestStreets := goodIn_ca (goodIn_r _ [47, 3, 13, 2, 48, 14, 49, 50, 51, 52, 53, 54, 8, 55, 10, 56, 18, 19, 20, 21, 22, 95, 96, 97, 98, 99, 100, 101, 102, 103, 104, 105, 106, 107, 108, 109, 110, 111, 112, 113, 114, 115, 116, 117, 118, 119, 120, 121, 122, 123, 124, 125, 126, 127, 128, 129, 130, 131] (by decide +kernel) (by decide +kernel)) (goodIn_sub (fun _ h => List.mem_cons_of_mem _ (List.mem_append_right _ h)) (by decide +kernel))
set_option maxRecDepth 20000 in
theorem gX2_digest_X2_digestStreets : GoodIn wsX2_digest (wsV RX2 213 RX2 yX2_digestStreets wsX2_digestStreets) := goodIn_app (goodIn_of _ (by decide +kernel)) ggX2_digest_X2_digestStreets
set_option maxRecDepth 20000 in
theorem ggX2_digest_X2_digestLamps : GoodIn wsX2_digest wsX2_digestLamps := goodIn_ca (goodIn_r _ [60, 3, 15, 2, 61, 62, 63, 8, 64, 65, 66, 67, 10, 68, 69, 70, 71, 72, 18, 19, 20, 21, 22, 73, 74, 75, 26, 76, 77, 78, 95, 96, 97, 98, 99, 100, 101, 102, 103, 104, 105, 106, 107, 108, 109, 110, 111, 112, 113, 114, 115, 116, 117, 118, 119, 120, 121, 122, 123, 124, 125, 126, 127, 128, 129, 130, 131] (by decide +kernel) (by decide +kernel)) (goodIn_sub (fun _ h => List.mem_cons_of_mem _ (List.mem_append_right _ h)) (by decide +kernel))
set_option maxRecDepth 20000 in
theorem gX2_digest_X2_digestLamps : GoodIn wsX2_digest (wsV RX2 217 RX2 yX2_digestLamps wsX2_digestLamps) := goodIn_app (goodIn_of _ (by decide +kernel)) ggX2_digest_X2_digestLamps
set_option maxRecDepth 20000 in
theorem ggX2_digest_X2_digestLighters : GoodIn wsX2_digest wsX2_digestLighters := goodIn_ca (goodIn_r _ [82, 3, 16, 2, 83, 84, 85, 86, 87, 8, 88, 10, 89, 90, 91, 92, 93, 94, 18, 19, 20, 21, 22, 95, 96, 97, 98, 99, 100, 101, 102, 103, 104, 105, 106, 107, 108, 109, 110, 111, 112, 113, 114, 115, 116, 117, 118, 119, 120, 121, 122, 123, 124, 125, 126, 127, 128, 129, 130, 131] (by decide +kernel) (by decide +kernel)) (goodIn_sub (fun _ h => List.mem_cons_of_mem _ (List.mem_append_right _ h)) (by decide +kernel))
set_option maxRecDepth 20000 in
theorem gX2_digest_X2_digestLighters : GoodIn wsX2_digest (wsV RX2 220 RX2 yX2_digestLighters wsX2_digestLighters) := goodIn_app (goodIn_of _ (by decide +kernel)) ggX2_digest_X2_digestLighters
theorem dX2_digest_0 : decode cX2_digest 0 = .ok (.ldc2_w 206, 3) := by decide +kernel
theorem dX2_digest_3 : decode cX2_digest 3 = .ok (.lstore_n 1, 1) := by decide +kernel
theorem dX2_digest_4 : decode cX2_digest 4 = .ok (.iconst 0, 1) := by decide +kernel
theorem dX2_digest_5 : decode cX2_digest 5 = .ok (.istore_n 3, 1) := by decide +kernel
theorem dX2_digest_6 : decode cX2_digest 6 = .ok (.iload_n 3, 1) := by decide +kernel
theorem dX2_digest_7 : decode cX2_digest 7 = .ok (.bipush 10, 2) := by decide +kernel
theorem dX2_digest_9 : decode cX2_digest 9 = .ok (.if_icmp .ge 22, 3) := by decide +kernel
theorem dX2_digest_12 : decode cX2_digest 12 = .ok (.lload_n 1, 1) := by decide +kernel
theorem dX2_digest_13 : decode cX2_digest 13 = .ok (.ldc2_w 208, 3) := by decide +kernel
theorem dX2_digest_16 : decode cX2_digest 16 = .ok (.lmul, 1) := by decide +kernel
theorem dX2_digest_17 : decode cX2_digest 17 = .ok (.aload_n 0, 1) := by decide +kernel
theorem dX2_digest_18 : decode cX2_digest 18 = .ok (.iload_n 3, 1) := by decide +kernel
theorem dX2_digest_19 : decode cX2_digest 19 = .ok (.invokevirtual 210, 3) := by decide +kernel
theorem dX2_digest_22 : decode cX2_digest 22 = .ok (.i2l, 1) := by decide +kernel
theorem dX2_digest_23 : decode cX2_digest 23 = .ok (.ladd, 1) := by decide +kernel
theorem dX2_digest_24 : decode cX2_digest 24 = .ok (.lstore_n 1, 1) := by decide +kernel
theorem dX2_digest_25 : decode cX2_digest 25 = .ok (.iinc 3 1, 3) := by decide +kernel
theorem dX2_digest_28 : decode cX2_digest 28 = .ok (.goto (-22), 3) := by decide +kernel
theorem dX2_digest_31 : decode cX2_digest 31 = .ok (.aload_n 0, 1) := by decide +kernel
theorem dX2_digest_32 : decode cX2_digest 32 = .ok (.lload_n 1, 1) := by decide +kernel
theorem dX2_digest_33 : decode cX2_digest 33 = .ok (.invokevirtual 213, 3) := by decide +kernel
theorem dX2_digest_36 : decode cX2_digest 36 = .ok (.lstore_n 1, 1) := by decide +kernel
theorem dX2_digest_37 : decode cX2_digest 37 = .ok (.aload_n 0, 1) := by decide +kernel
theorem dX2_digest_38 : decode cX2_digest 38 = .ok (.lload_n 1, 1) := by decide +kernel
theorem dX2_digest_39 : decode cX2_digest 39 = .ok (.invokevirtual 217, 3) := by decide +kernel
theorem dX2_digest_42 : decode cX2_digest 42 = .ok (.lstore_n 1, 1) := by decide +kernel
theorem dX2_digest_43 : decode cX2_digest 43 = .ok (.aload_n 0, 1) := by decide +kernel
theorem dX2_digest_44 : decode cX2_digest 44 = .ok (.lload_n 1, 1) := by decide +kernel
theorem dX2_digest_45 : decode cX2_digest 45 = .ok (.invokevirtual 220, 3) := by decide +kernel
theorem dX2_digest_48 : decode cX2_digest 48 = .ok (.lstore_n 1, 1) := by decide +kernel
theorem dX2_digest_49 : decode cX2_digest 49 = .ok (.iconst 0, 1) := by decide +kernel
theorem dX2_digest_50 : decode cX2_digest 50 = .ok (.istore_n 3, 1) := by decide +kernel
theorem dX2_digest_51 : decode cX2_digest 51 = .ok (.iload_n 3, 1) := by decide +kernel
theorem dX2_digest_52 : decode cX2_digest 52 = .ok (.bipush 10, 2) := by decide +kernel
theorem dX2_digest_54 : decode cX2_digest 54 = .ok (.if_icmp .ge 26, 3) := by decide +kernel
theorem dX2_digest_57 : decode cX2_digest 57 = .ok (.lload_n 1, 1) := by decide +kernel
theorem dX2_digest_58 : decode cX2_digest 58 = .ok (.ldc2_w 208, 3) := by decide +kernel
theorem dX2_digest_61 : decode cX2_digest 61 = .ok (.lmul, 1) := by decide +kernel
theorem dX2_digest_62 : decode cX2_digest 62 = .ok (.aload_n 0, 1) := by decide +kernel
theorem dX2_digest_63 : decode cX2_digest 63 = .ok (.getfield 12, 3) := by decide +kernel
theorem dX2_digest_66 : decode cX2_digest 66 = .ok (.getfield 73, 3) := by decide +kernel
theorem dX2_digest_69 : decode cX2_digest 69 = .ok (.iload_n 3, 1) := by decide +kernel
theorem dX2_digest_70 : decode cX2_digest 70 = .ok (.iaload, 1) := by decide +kernel
theorem dX2_digest_71 : decode cX2_digest 71 = .ok (.i2l, 1) := by decide +kernel
theorem dX2_digest_72 : decode cX2_digest 72 = .ok (.ladd, 1) := by decide +kernel
theorem dX2_digest_73 : decode cX2_digest 73 = .ok (.lstore_n 1, 1) := by decide +kernel
theorem dX2_digest_74 : decode cX2_digest 74 = .ok (.iinc 3 1, 3) := by decide +kernel
theorem dX2_digest_77 : decode cX2_digest 77 = .ok (.goto (-26), 3) := by decide +kernel
theorem dX2_digest_80 : decode cX2_digest 80 = .ok (.lload_n 1, 1) := by decide +kernel
theorem dX2_digest_81 : decode cX2_digest 81 = .ok (.lreturn, 1) := by decide +kernel
theorem dX2_requireIndex_0 : decode cX2_requireIndex 0 = .ok (.iload_n 0, 1) := by decide +kernel
theorem dX2_requireIndex_1 : decode cX2_requireIndex 1 = .ok (.ifCond .lt 8, 3) := by decide +kernel
theorem dX2_requireIndex_4 : decode cX2_requireIndex 4 = .ok (.iload_n 0, 1) := by decide +kernel
theorem dX2_requireIndex_5 : decode cX2_requireIndex 5 = .ok (.iload_n 1, 1) := by decide +kernel
theorem dX2_requireIndex_6 : decode cX2_requireIndex 6 = .ok (.if_icmp .lt 13, 3) := by decide +kernel
theorem dX2_requireIndex_9 : decode cX2_requireIndex 9 = .ok (.new 223, 3) := by decide +kernel
theorem dX2_requireIndex_12 : decode cX2_requireIndex 12 = .ok (.dup, 1) := by decide +kernel
theorem dX2_requireIndex_13 : decode cX2_requireIndex 13 = .ok (.ldc 225, 2) := by decide +kernel
theorem dX2_requireIndex_15 : decode cX2_requireIndex 15 = .ok (.invokespecial 227, 3) := by decide +kernel
theorem dX2_requireIndex_18 : decode cX2_requireIndex 18 = .ok (.athrow, 1) := by decide +kernel
theorem dX2_requireIndex_19 : decode cX2_requireIndex 19 = .ok (.return_, 1) := by decide +kernel
theorem dX2_requireRange_0 : decode cX2_requireRange 0 = .ok (.iload_n 0, 1) := by decide +kernel
theorem dX2_requireRange_1 : decode cX2_requireRange 1 = .ok (.iload_n 1, 1) := by decide +kernel
theorem dX2_requireRange_2 : decode cX2_requireRange 2 = .ok (.if_icmp .lt 8, 3) := by decide +kernel
theorem dX2_requireRange_5 : decode cX2_requireRange 5 = .ok (.iload_n 0, 1) := by decide +kernel
theorem dX2_requireRange_6 : decode cX2_requireRange 6 = .ok (.iload_n 2, 1) := by decide +kernel
theorem dX2_requireRange_7 : decode cX2_requireRange 7 = .ok (.if_icmp .le 13, 3) := by decide +kernel
theorem dX2_requireRange_10 : decode cX2_requireRange 10 = .ok (.new 49, 3) := by decide +kernel
theorem dX2_requireRange_13 : decode cX2_requireRange 13 = .ok (.dup, 1) := by decide +kernel
theorem dX2_requireRange_14 : decode cX2_requireRange 14 = .ok (.ldc 228, 2) := by decide +kernel
theorem dX2_requireRange_16 : decode cX2_requireRange 16 = .ok (.invokespecial 53, 3) := by decide +kernel
theorem dX2_requireRange_19 : decode cX2_requireRange 19 = .ok (.athrow, 1) := by decide +kernel
theorem dX2_requireRange_20 : decode cX2_requireRange 20 = .ok (.return_, 1) := by decide +kernel
theorem dX2_requireRoom_0 : decode cX2_requireRoom 0 = .ok (.iload_n 0, 1) := by decide +kernel
theorem dX2_requireRoom_1 : decode cX2_requireRoom 1 = .ok (.iload_n 1, 1) := by decide +kernel
theorem dX2_requireRoom_2 : decode cX2_requireRoom 2 = .ok (.if_icmp .lt 13, 3) := by decide +kernel
theorem dX2_requireRoom_5 : decode cX2_requireRoom 5 = .ok (.new 93, 3) := by decide +kernel
theorem dX2_requireRoom_8 : decode cX2_requireRoom 8 = .ok (.dup, 1) := by decide +kernel
theorem dX2_requireRoom_9 : decode cX2_requireRoom 9 = .ok (.ldc 230, 2) := by decide +kernel
theorem dX2_requireRoom_11 : decode cX2_requireRoom 11 = .ok (.invokespecial 97, 3) := by decide +kernel
theorem dX2_requireRoom_14 : decode cX2_requireRoom 14 = .ok (.athrow, 1) := by decide +kernel
theorem dX2_requireRoom_15 : decode cX2_requireRoom 15 = .ok (.return_, 1) := by decide +kernel
theorem dX2_clearDarkMinutes_0 : decode cX2_clearDarkMinutes 0 = .ok (.iconst 0, 1) := by decide +kernel
theorem dX2_clearDarkMinutes_1 : decode cX2_clearDarkMinutes 1 = .ok (.istore_n 1, 1) := by decide +kernel
theorem dX2_clearDarkMinutes_2 : decode cX2_clearDarkMinutes 2 = .ok (.iload_n 1, 1) := by decide +kernel
theorem dX2_clearDarkMinutes_3 : decode cX2_clearDarkMinutes 3 = .ok (.bipush 18, 2) := by decide +kernel
theorem dX2_clearDarkMinutes_5 : decode cX2_clearDarkMinutes 5 = .ok (.if_icmp .ge 16, 3) := by decide +kernel
theorem dX2_clearDarkMinutes_8 : decode cX2_clearDarkMinutes 8 = .ok (.aload_n 0, 1) := by decide +kernel
theorem dX2_clearDarkMinutes_9 : decode cX2_clearDarkMinutes 9 = .ok (.getfield 26, 3) := by decide +kernel
theorem dX2_clearDarkMinutes_12 : decode cX2_clearDarkMinutes 12 = .ok (.iload_n 1, 1) := by decide +kernel
theorem dX2_clearDarkMinutes_13 : decode cX2_clearDarkMinutes 13 = .ok (.iconst 0, 1) := by decide +kernel
theorem dX2_clearDarkMinutes_14 : decode cX2_clearDarkMinutes 14 = .ok (.iastore, 1) := by decide +kernel
theorem dX2_clearDarkMinutes_15 : decode cX2_clearDarkMinutes 15 = .ok (.iinc 1 1, 3) := by decide +kernel
theorem dX2_clearDarkMinutes_18 : decode cX2_clearDarkMinutes 18 = .ok (.goto (-16), 3) := by decide +kernel
theorem dX2_clearDarkMinutes_21 : decode cX2_clearDarkMinutes 21 = .ok (.return_, 1) := by decide +kernel
set_option maxRecDepth 20000 in
theorem ggX2_addDarkMinute_X0_isDark : GoodIn wsX2_addDarkMinute wsX0_isDark := goodIn_r _ [9, 10, 32, 33, 34, 35, 36, 37, 38, 39, 40, 41, 42, 43, 44, 45, 46, 47] (by decide +kernel) (by decide +kernel)
set_option maxRecDepth 20000 in
theorem gX2_addDarkMinute_X0_isDark : GoodIn wsX2_addDarkMinute (wsV RX2 232 RX0 yX0_isDark wsX0_isDark) := goodIn_app (goodIn_of _ (by decide +kernel)) ggX2_addDarkMinute_X0_isDark
theorem dX2_addDarkMinute_0 : decode cX2_addDarkMinute 0 = .ok (.iconst 0, 1) := by decide +kernel
theorem dX2_addDarkMinute_1 : decode cX2_addDarkMinute 1 = .ok (.istore_n 1, 1) := by decide +kernel
theorem dX2_addDarkMinute_2 : decode cX2_addDarkMinute 2 = .ok (.iload_n 1, 1) := by decide +kernel
theorem dX2_addDarkMinute_3 : decode cX2_addDarkMinute 3 = .ok (.aload_n 0, 1) := by decide +kernel
theorem dX2_addDarkMinute_4 : decode cX2_addDarkMinute 4 = .ok (.getfield 12, 3) := by decide +kernel
theorem dX2_addDarkMinute_7 : decode cX2_addDarkMinute 7 = .ok (.getfield 56, 3) := by decide +kernel
theorem dX2_addDarkMinute_10 : decode cX2_addDarkMinute 10 = .ok (.if_icmp .ge 30, 3) := by decide +kernel
theorem dX2_addDarkMinute_13 : decode cX2_addDarkMinute 13 = .ok (.aload_n 0, 1) := by decide +kernel
theorem dX2_addDarkMinute_14 : decode cX2_addDarkMinute 14 = .ok (.getfield 23, 3) := by decide +kernel
theorem dX2_addDarkMinute_17 : decode cX2_addDarkMinute 17 = .ok (.iload_n 1, 1) := by decide +kernel
theorem dX2_addDarkMinute_18 : decode cX2_addDarkMinute 18 = .ok (.invokevirtual 232, 3) := by decide +kernel
theorem dX2_addDarkMinute_21 : decode cX2_addDarkMinute 21 = .ok (.ifCond .eq 13, 3) := by decide +kernel
theorem dX2_addDarkMinute_24 : decode cX2_addDarkMinute 24 = .ok (.aload_n 0, 1) := by decide +kernel
theorem dX2_addDarkMinute_25 : decode cX2_addDarkMinute 25 = .ok (.getfield 26, 3) := by decide +kernel
theorem dX2_addDarkMinute_28 : decode cX2_addDarkMinute 28 = .ok (.iload_n 1, 1) := by decide +kernel
theorem dX2_addDarkMinute_29 : decode cX2_addDarkMinute 29 = .ok (.dup2, 1) := by decide +kernel
theorem dX2_addDarkMinute_30 : decode cX2_addDarkMinute 30 = .ok (.iaload, 1) := by decide +kernel
theorem dX2_addDarkMinute_31 : decode cX2_addDarkMinute 31 = .ok (.iconst 1, 1) := by decide +kernel
theorem dX2_addDarkMinute_32 : decode cX2_addDarkMinute 32 = .ok (.iadd, 1) := by decide +kernel
theorem dX2_addDarkMinute_33 : decode cX2_addDarkMinute 33 = .ok (.iastore, 1) := by decide +kernel
theorem dX2_addDarkMinute_34 : decode cX2_addDarkMinute 34 = .ok (.iinc 1 1, 3) := by decide +kernel
theorem dX2_addDarkMinute_37 : decode cX2_addDarkMinute 37 = .ok (.goto (-35), 3) := by decide +kernel
theorem dX2_addDarkMinute_40 : decode cX2_addDarkMinute 40 = .ok (.return_, 1) := by decide +kernel
theorem dX2_streetOfMostDarkMinutes_0 : decode cX2_streetOfMostDarkMinutes 0 = .ok (.iconst (-1), 1) := by decide +kernel
theorem dX2_streetOfMostDarkMinutes_1 : decode cX2_streetOfMostDarkMinutes 1 = .ok (.istore_n 1, 1) := by decide +kernel
theorem dX2_streetOfMostDarkMinutes_2 : decode cX2_streetOfMostDarkMinutes 2 = .ok (.iconst 0, 1) := by decide +kernel
theorem dX2_streetOfMostDarkMinutes_3 : decode cX2_streetOfMostDarkMinutes 3 = .ok (.istore_n 2, 1) := by decide +kernel
theorem dX2_streetOfMostDarkMinutes_4 : decode cX2_streetOfMostDarkMinutes 4 = .ok (.iconst 0, 1) := by decide +kernel
theorem dX2_streetOfMostDarkMinutes_5 : decode cX2_streetOfMostDarkMinutes 5 = .ok (.istore_n 3, 1) := by decide +kernel
theorem dX2_streetOfMostDarkMinutes_6 : decode cX2_streetOfMostDarkMinutes 6 = .ok (.iload_n 3, 1) := by decide +kernel
theorem dX2_streetOfMostDarkMinutes_7 : decode cX2_streetOfMostDarkMinutes 7 = .ok (.aload_n 0, 1) := by decide +kernel
theorem dX2_streetOfMostDarkMinutes_8 : decode cX2_streetOfMostDarkMinutes 8 = .ok (.getfield 12, 3) := by decide +kernel
theorem dX2_streetOfMostDarkMinutes_11 : decode cX2_streetOfMostDarkMinutes 11 = .ok (.getfield 56, 3) := by decide +kernel
theorem dX2_streetOfMostDarkMinutes_14 : decode cX2_streetOfMostDarkMinutes 14 = .ok (.if_icmp .ge 28, 3) := by decide +kernel
theorem dX2_streetOfMostDarkMinutes_17 : decode cX2_streetOfMostDarkMinutes 17 = .ok (.aload_n 0, 1) := by decide +kernel
theorem dX2_streetOfMostDarkMinutes_18 : decode cX2_streetOfMostDarkMinutes 18 = .ok (.getfield 26, 3) := by decide +kernel
theorem dX2_streetOfMostDarkMinutes_21 : decode cX2_streetOfMostDarkMinutes 21 = .ok (.iload_n 3, 1) := by decide +kernel
theorem dX2_streetOfMostDarkMinutes_22 : decode cX2_streetOfMostDarkMinutes 22 = .ok (.iaload, 1) := by decide +kernel
theorem dX2_streetOfMostDarkMinutes_23 : decode cX2_streetOfMostDarkMinutes 23 = .ok (.iload_n 2, 1) := by decide +kernel
theorem dX2_streetOfMostDarkMinutes_24 : decode cX2_streetOfMostDarkMinutes 24 = .ok (.if_icmp .le 12, 3) := by decide +kernel
theorem dX2_streetOfMostDarkMinutes_27 : decode cX2_streetOfMostDarkMinutes 27 = .ok (.aload_n 0, 1) := by decide +kernel
theorem dX2_streetOfMostDarkMinutes_28 : decode cX2_streetOfMostDarkMinutes 28 = .ok (.getfield 26, 3) := by decide +kernel
theorem dX2_streetOfMostDarkMinutes_31 : decode cX2_streetOfMostDarkMinutes 31 = .ok (.iload_n 3, 1) := by decide +kernel
theorem dX2_streetOfMostDarkMinutes_32 : decode cX2_streetOfMostDarkMinutes 32 = .ok (.iaload, 1) := by decide +kernel
theorem dX2_streetOfMostDarkMinutes_33 : decode cX2_streetOfMostDarkMinutes 33 = .ok (.istore_n 2, 1) := by decide +kernel
theorem dX2_streetOfMostDarkMinutes_34 : decode cX2_streetOfMostDarkMinutes 34 = .ok (.iload_n 3, 1) := by decide +kernel
theorem dX2_streetOfMostDarkMinutes_35 : decode cX2_streetOfMostDarkMinutes 35 = .ok (.istore_n 1, 1) := by decide +kernel
theorem dX2_streetOfMostDarkMinutes_36 : decode cX2_streetOfMostDarkMinutes 36 = .ok (.iinc 3 1, 3) := by decide +kernel
theorem dX2_streetOfMostDarkMinutes_39 : decode cX2_streetOfMostDarkMinutes 39 = .ok (.goto (-33), 3) := by decide +kernel
theorem dX2_streetOfMostDarkMinutes_42 : decode cX2_streetOfMostDarkMinutes 42 = .ok (.iload_n 1, 1) := by decide +kernel
theorem dX2_streetOfMostDarkMinutes_43 : decode cX2_streetOfMostDarkMinutes 43 = .ok (.ireturn, 1) := by decide +kernel
set_option maxRecDepth 20000 in
theorem ggX2_digestStreets_X2_burning : GoodIn wsX2_digestStreets wsX2_burning := goodIn_ca (goodIn_r _ [13, 1, 5, 14, 15, 16, 17, 12, 18, 19, 20, 21, 22, 23, 24, 25, 26, 27, 28, 29, 30, 31, 32, 33, 34, 35, 36, 37, 38, 39, 40, 41, 42, 43, 44, 45, 46, 47, 48, 49, 50, 51, 52, 53, 54, 55, 56, 57] (by decide +kernel) (by decide +kernel)) (goodIn_sub (fun _ h => List.mem_cons_of_mem _ (List.mem_append_right _ h)) (by decide +kernel))
set_option maxRecDepth 20000 in
theorem gX2_digestStreets_X2_burning : GoodIn wsX2_digestStreets (wsV RX2 248 RX2 yX2_burning wsX2_burning) := goodIn_app (goodIn_of _ (by decide +kernel)) ggX2_digestStreets_X2_burning
theorem dX2_digestStreets_0 : decode cX2_digestStreets 0 = .ok (.lload_n 1, 1) := by decide +kernel
theorem dX2_digestStreets_1 : decode cX2_digestStreets 1 = .ok (.lstore_n 3, 1) := by decide +kernel
theorem dX2_digestStreets_2 : decode cX2_digestStreets 2 = .ok (.iconst 0, 1) := by decide +kernel
theorem dX2_digestStreets_3 : decode cX2_digestStreets 3 = .ok (.istore 5, 2) := by decide +kernel
theorem dX2_digestStreets_5 : decode cX2_digestStreets 5 = .ok (.iload 5, 2) := by decide +kernel
theorem dX2_digestStreets_7 : decode cX2_digestStreets 7 = .ok (.aload_n 0, 1) := by decide +kernel
theorem dX2_digestStreets_8 : decode cX2_digestStreets 8 = .ok (.getfield 12, 3) := by decide +kernel
theorem dX2_digestStreets_11 : decode cX2_digestStreets 11 = .ok (.getfield 34, 3) := by decide +kernel
theorem dX2_digestStreets_14 : decode cX2_digestStreets 14 = .ok (.if_icmp .ge 27, 3) := by decide +kernel
theorem dX2_digestStreets_17 : decode cX2_digestStreets 17 = .ok (.lload_n 3, 1) := by decide +kernel
theorem dX2_digestStreets_18 : decode cX2_digestStreets 18 = .ok (.ldc2_w 208, 3) := by decide +kernel
theorem dX2_digestStreets_21 : decode cX2_digestStreets 21 = .ok (.lmul, 1) := by decide +kernel
theorem dX2_digestStreets_22 : decode cX2_digestStreets 22 = .ok (.aload_n 0, 1) := by decide +kernel
theorem dX2_digestStreets_23 : decode cX2_digestStreets 23 = .ok (.getfield 12, 3) := by decide +kernel
theorem dX2_digestStreets_26 : decode cX2_digestStreets 26 = .ok (.getfield 236, 3) := by decide +kernel
theorem dX2_digestStreets_29 : decode cX2_digestStreets 29 = .ok (.iload 5, 2) := by decide +kernel
theorem dX2_digestStreets_31 : decode cX2_digestStreets 31 = .ok (.iaload, 1) := by decide +kernel
theorem dX2_digestStreets_32 : decode cX2_digestStreets 32 = .ok (.i2l, 1) := by decide +kernel
theorem dX2_digestStreets_33 : decode cX2_digestStreets 33 = .ok (.ladd, 1) := by decide +kernel
theorem dX2_digestStreets_34 : decode cX2_digestStreets 34 = .ok (.lstore_n 3, 1) := by decide +kernel
theorem dX2_digestStreets_35 : decode cX2_digestStreets 35 = .ok (.iinc 5 1, 3) := by decide +kernel
theorem dX2_digestStreets_38 : decode cX2_digestStreets 38 = .ok (.goto (-33), 3) := by decide +kernel
theorem dX2_digestStreets_41 : decode cX2_digestStreets 41 = .ok (.iconst 0, 1) := by decide +kernel
theorem dX2_digestStreets_42 : decode cX2_digestStreets 42 = .ok (.istore 5, 2) := by decide +kernel
theorem dX2_digestStreets_44 : decode cX2_digestStreets 44 = .ok (.iload 5, 2) := by decide +kernel
theorem dX2_digestStreets_46 : decode cX2_digestStreets 46 = .ok (.aload_n 0, 1) := by decide +kernel
theorem dX2_digestStreets_47 : decode cX2_digestStreets 47 = .ok (.getfield 12, 3) := by decide +kernel
theorem dX2_digestStreets_50 : decode cX2_digestStreets 50 = .ok (.getfield 56, 3) := by decide +kernel
theorem dX2_digestStreets_53 : decode cX2_digestStreets 53 = .ok (.if_icmp .ge 77, 3) := by decide +kernel
theorem dX2_digestStreets_56 : decode cX2_digestStreets 56 = .ok (.lload_n 3, 1) := by decide +kernel
theorem dX2_digestStreets_57 : decode cX2_digestStreets 57 = .ok (.ldc2_w 208, 3) := by decide +kernel
theorem dX2_digestStreets_60 : decode cX2_digestStreets 60 = .ok (.lmul, 1) := by decide +kernel
theorem dX2_digestStreets_61 : decode cX2_digestStreets 61 = .ok (.aload_n 0, 1) := by decide +kernel
theorem dX2_digestStreets_62 : decode cX2_digestStreets 62 = .ok (.getfield 12, 3) := by decide +kernel
theorem dX2_digestStreets_65 : decode cX2_digestStreets 65 = .ok (.getfield 239, 3) := by decide +kernel
theorem dX2_digestStreets_68 : decode cX2_digestStreets 68 = .ok (.iload 5, 2) := by decide +kernel
theorem dX2_digestStreets_70 : decode cX2_digestStreets 70 = .ok (.iaload, 1) := by decide +kernel
theorem dX2_digestStreets_71 : decode cX2_digestStreets 71 = .ok (.i2l, 1) := by decide +kernel
theorem dX2_digestStreets_72 : decode cX2_digestStreets 72 = .ok (.ladd, 1) := by decide +kernel
theorem dX2_digestStreets_73 : decode cX2_digestStreets 73 = .ok (.lstore_n 3, 1) := by decide +kernel
theorem dX2_digestStreets_74 : decode cX2_digestStreets 74 = .ok (.lload_n 3, 1) := by decide +kernel
theorem dX2_digestStreets_75 : decode cX2_digestStreets 75 = .ok (.ldc2_w 208, 3) := by decide +kernel
theorem dX2_digestStreets_78 : decode cX2_digestStreets 78 = .ok (.lmul, 1) := by decide +kernel
theorem dX2_digestStreets_79 : decode cX2_digestStreets 79 = .ok (.aload_n 0, 1) := by decide +kernel
theorem dX2_digestStreets_80 : decode cX2_digestStreets 80 = .ok (.getfield 12, 3) := by decide +kernel
theorem dX2_digestStreets_83 : decode cX2_digestStreets 83 = .ok (.getfield 242, 3) := by decide +kernel
theorem dX2_digestStreets_86 : decode cX2_digestStreets 86 = .ok (.iload 5, 2) := by decide +kernel
theorem dX2_digestStreets_88 : decode cX2_digestStreets 88 = .ok (.iaload, 1) := by decide +kernel
theorem dX2_digestStreets_89 : decode cX2_digestStreets 89 = .ok (.i2l, 1) := by decide +kernel
theorem dX2_digestStreets_90 : decode cX2_digestStreets 90 = .ok (.ladd, 1) := by decide +kernel
theorem dX2_digestStreets_91 : decode cX2_digestStreets 91 = .ok (.lstore_n 3, 1) := by decide +kernel
theorem dX2_digestStreets_92 : decode cX2_digestStreets 92 = .ok (.lload_n 3, 1) := by decide +kernel
theorem dX2_digestStreets_93 : decode cX2_digestStreets 93 = .ok (.ldc2_w 208, 3) := by decide +kernel
theorem dX2_digestStreets_96 : decode cX2_digestStreets 96 = .ok (.lmul, 1) := by decide +kernel
theorem dX2_digestStreets_97 : decode cX2_digestStreets 97 = .ok (.aload_n 0, 1) := by decide +kernel
theorem dX2_digestStreets_98 : decode cX2_digestStreets 98 = .ok (.getfield 12, 3) := by decide +kernel
theorem dX2_digestStreets_101 : decode cX2_digestStreets 101 = .ok (.getfield 245, 3) := by decide +kernel
theorem dX2_digestStreets_104 : decode cX2_digestStreets 104 = .ok (.iload 5, 2) := by decide +kernel
theorem dX2_digestStreets_106 : decode cX2_digestStreets 106 = .ok (.iaload, 1) := by decide +kernel
theorem dX2_digestStreets_107 : decode cX2_digestStreets 107 = .ok (.i2l, 1) := by decide +kernel
theorem dX2_digestStreets_108 : decode cX2_digestStreets 108 = .ok (.ladd, 1) := by decide +kernel
theorem dX2_digestStreets_109 : decode cX2_digestStreets 109 = .ok (.lstore_n 3, 1) := by decide +kernel
theorem dX2_digestStreets_110 : decode cX2_digestStreets 110 = .ok (.lload_n 3, 1) := by decide +kernel
theorem dX2_digestStreets_111 : decode cX2_digestStreets 111 = .ok (.ldc2_w 208, 3) := by decide +kernel
theorem dX2_digestStreets_114 : decode cX2_digestStreets 114 = .ok (.lmul, 1) := by decide +kernel
theorem dX2_digestStreets_115 : decode cX2_digestStreets 115 = .ok (.aload_n 0, 1) := by decide +kernel
theorem dX2_digestStreets_116 : decode cX2_digestStreets 116 = .ok (.iload 5, 2) := by decide +kernel
theorem dX2_digestStreets_118 : decode cX2_digestStreets 118 = .ok (.invokevirtual 248, 3) := by decide +kernel
theorem dX2_digestStreets_121 : decode cX2_digestStreets 121 = .ok (.i2l, 1) := by decide +kernel
theorem dX2_digestStreets_122 : decode cX2_digestStreets 122 = .ok (.ladd, 1) := by decide +kernel
theorem dX2_digestStreets_123 : decode cX2_digestStreets 123 = .ok (.lstore_n 3, 1) := by decide +kernel
theorem dX2_digestStreets_124 : decode cX2_digestStreets 124 = .ok (.iinc 5 1, 3) := by decide +kernel
theorem dX2_digestStreets_127 : decode cX2_digestStreets 127 = .ok (.goto (-83), 3) := by decide +kernel
theorem dX2_digestStreets_130 : decode cX2_digestStreets 130 = .ok (.lload_n 3, 1) := by decide +kernel
theorem dX2_digestStreets_131 : decode cX2_digestStreets 131 = .ok (.lreturn, 1) := by decide +kernel
set_option maxRecDepth 20000 in
theorem ggX2_digestLamps_X2_told : GoodIn wsX2_digestLamps wsX2_told := goodIn_ca (goodIn_r _ [8, 1, 2, 9, 10, 11, 12, 13, 14, 15, 16, 17, 18, 19, 7, 20, 21, 22, 23, 24, 25, 26, 27, 28, 29, 30, 31, 32, 33, 34, 35, 36, 37, 38, 39, 40, 41, 42, 43, 44, 45, 46, 47, 48, 49, 50, 51, 52, 53, 54, 55, 56, 57, 58, 59, 60, 61, 62, 63, 64, 65, 66] (by decide +kernel) (by decide +kernel)) (goodIn_sub (fun _ h => List.mem_cons_of_mem _ (List.mem_append_right _ h)) (by decide +kernel))
set_option maxRecDepth 20000 in
theorem gX2_digestLamps_X2_told : GoodIn wsX2_digestLamps (wsV RX2 251 RX2 yX2_told wsX2_told) := goodIn_app (goodIn_of _ (by decide +kernel)) ggX2_digestLamps_X2_told
theorem dX2_digestLamps_0 : decode cX2_digestLamps 0 = .ok (.lload_n 1, 1) := by decide +kernel
theorem dX2_digestLamps_1 : decode cX2_digestLamps 1 = .ok (.lstore_n 3, 1) := by decide +kernel
theorem dX2_digestLamps_2 : decode cX2_digestLamps 2 = .ok (.iconst 0, 1) := by decide +kernel
theorem dX2_digestLamps_3 : decode cX2_digestLamps 3 = .ok (.istore 5, 2) := by decide +kernel
theorem dX2_digestLamps_5 : decode cX2_digestLamps 5 = .ok (.iload 5, 2) := by decide +kernel
theorem dX2_digestLamps_7 : decode cX2_digestLamps 7 = .ok (.aload_n 0, 1) := by decide +kernel
theorem dX2_digestLamps_8 : decode cX2_digestLamps 8 = .ok (.getfield 12, 3) := by decide +kernel
theorem dX2_digestLamps_11 : decode cX2_digestLamps 11 = .ok (.getfield 63, 3) := by decide +kernel
theorem dX2_digestLamps_14 : decode cX2_digestLamps 14 = .ok (.if_icmp .ge 41, 3) := by decide +kernel
theorem dX2_digestLamps_17 : decode cX2_digestLamps 17 = .ok (.iconst 0, 1) := by decide +kernel
theorem dX2_digestLamps_18 : decode cX2_digestLamps 18 = .ok (.istore 6, 2) := by decide +kernel
theorem dX2_digestLamps_20 : decode cX2_digestLamps 20 = .ok (.iload 6, 2) := by decide +kernel
theorem dX2_digestLamps_22 : decode cX2_digestLamps 22 = .ok (.bipush 9, 2) := by decide +kernel
theorem dX2_digestLamps_24 : decode cX2_digestLamps 24 = .ok (.if_icmp .ge 25, 3) := by decide +kernel
theorem dX2_digestLamps_27 : decode cX2_digestLamps 27 = .ok (.lload_n 3, 1) := by decide +kernel
theorem dX2_digestLamps_28 : decode cX2_digestLamps 28 = .ok (.ldc2_w 208, 3) := by decide +kernel
theorem dX2_digestLamps_31 : decode cX2_digestLamps 31 = .ok (.lmul, 1) := by decide +kernel
theorem dX2_digestLamps_32 : decode cX2_digestLamps 32 = .ok (.aload_n 0, 1) := by decide +kernel
theorem dX2_digestLamps_33 : decode cX2_digestLamps 33 = .ok (.iload 5, 2) := by decide +kernel
theorem dX2_digestLamps_35 : decode cX2_digestLamps 35 = .ok (.iload 6, 2) := by decide +kernel
theorem dX2_digestLamps_37 : decode cX2_digestLamps 37 = .ok (.invokevirtual 251, 3) := by decide +kernel
theorem dX2_digestLamps_40 : decode cX2_digestLamps 40 = .ok (.i2l, 1) := by decide +kernel
theorem dX2_digestLamps_41 : decode cX2_digestLamps 41 = .ok (.ladd, 1) := by decide +kernel
theorem dX2_digestLamps_42 : decode cX2_digestLamps 42 = .ok (.lstore_n 3, 1) := by decide +kernel
theorem dX2_digestLamps_43 : decode cX2_digestLamps 43 = .ok (.iinc 6 1, 3) := by decide +kernel
theorem dX2_digestLamps_46 : decode cX2_digestLamps 46 = .ok (.goto (-26), 3) := by decide +kernel
theorem dX2_digestLamps_49 : decode cX2_digestLamps 49 = .ok (.iinc 5 1, 3) := by decide +kernel
theorem dX2_digestLamps_52 : decode cX2_digestLamps 52 = .ok (.goto (-47), 3) := by decide +kernel
theorem dX2_digestLamps_55 : decode cX2_digestLamps 55 = .ok (.lload_n 3, 1) := by decide +kernel
theorem dX2_digestLamps_56 : decode cX2_digestLamps 56 = .ok (.lreturn, 1) := by decide +kernel
set_option maxRecDepth 20000 in
theorem ggX2_digestLighters_X2_lighter : GoodIn wsX2_digestLighters wsX2_lighter := goodIn_ca (goodIn_r _ [10, 1, 2, 11, 12, 13, 14, 4, 15, 16, 17, 18, 19, 9, 20, 21, 22, 23, 24, 25, 26, 27, 28, 29, 30, 31, 32, 33, 34, 35, 36, 37, 38, 39, 40, 41, 42, 43, 44, 45, 46, 47, 48, 49, 50, 51, 52, 53, 54, 55, 56, 57, 58, 59] (by decide +kernel) (by decide +kernel)) (goodIn_sub (fun _ h => List.mem_cons_of_mem _ (List.mem_append_right _ h)) (by decide +kernel))
set_option maxRecDepth 20000 in
theorem gX2_digestLighters_X2_lighter : GoodIn wsX2_digestLighters (wsV RX2 254 RX2 yX2_lighter wsX2_lighter) := goodIn_app (goodIn_of _ (by decide +kernel)) ggX2_digestLighters_X2_lighter
theorem dX2_digestLighters_0 : decode cX2_digestLighters 0 = .ok (.lload_n 1, 1) := by decide +kernel
theorem dX2_digestLighters_1 : decode cX2_digestLighters 1 = .ok (.lstore_n 3, 1) := by decide +kernel
theorem dX2_digestLighters_2 : decode cX2_digestLighters 2 = .ok (.iconst 0, 1) := by decide +kernel
theorem dX2_digestLighters_3 : decode cX2_digestLighters 3 = .ok (.istore 5, 2) := by decide +kernel
theorem dX2_digestLighters_5 : decode cX2_digestLighters 5 = .ok (.iload 5, 2) := by decide +kernel
theorem dX2_digestLighters_7 : decode cX2_digestLighters 7 = .ok (.aload_n 0, 1) := by decide +kernel
theorem dX2_digestLighters_8 : decode cX2_digestLighters 8 = .ok (.getfield 12, 3) := by decide +kernel
theorem dX2_digestLighters_11 : decode cX2_digestLighters 11 = .ok (.getfield 76, 3) := by decide +kernel
theorem dX2_digestLighters_14 : decode cX2_digestLighters 14 = .ok (.if_icmp .ge 86, 3) := by decide +kernel
theorem dX2_digestLighters_17 : decode cX2_digestLighters 17 = .ok (.iconst 0, 1) := by decide +kernel
theorem dX2_digestLighters_18 : decode cX2_digestLighters 18 = .ok (.istore 6, 2) := by decide +kernel
theorem dX2_digestLighters_20 : decode cX2_digestLighters 20 = .ok (.iload 6, 2) := by decide +kernel
theorem dX2_digestLighters_22 : decode cX2_digestLighters 22 = .ok (.bipush 7, 2) := by decide +kernel
theorem dX2_digestLighters_24 : decode cX2_digestLighters 24 = .ok (.if_icmp .ge 25, 3) := by decide +kernel
theorem dX2_digestLighters_27 : decode cX2_digestLighters 27 = .ok (.lload_n 3, 1) := by decide +kernel
theorem dX2_digestLighters_28 : decode cX2_digestLighters 28 = .ok (.ldc2_w 208, 3) := by decide +kernel
theorem dX2_digestLighters_31 : decode cX2_digestLighters 31 = .ok (.lmul, 1) := by decide +kernel
theorem dX2_digestLighters_32 : decode cX2_digestLighters 32 = .ok (.aload_n 0, 1) := by decide +kernel
theorem dX2_digestLighters_33 : decode cX2_digestLighters 33 = .ok (.iload 5, 2) := by decide +kernel
theorem dX2_digestLighters_35 : decode cX2_digestLighters 35 = .ok (.iload 6, 2) := by decide +kernel
theorem dX2_digestLighters_37 : decode cX2_digestLighters 37 = .ok (.invokevirtual 254, 3) := by decide +kernel
theorem dX2_digestLighters_40 : decode cX2_digestLighters 40 = .ok (.i2l, 1) := by decide +kernel
theorem dX2_digestLighters_41 : decode cX2_digestLighters 41 = .ok (.ladd, 1) := by decide +kernel
theorem dX2_digestLighters_42 : decode cX2_digestLighters 42 = .ok (.lstore_n 3, 1) := by decide +kernel
theorem dX2_digestLighters_43 : decode cX2_digestLighters 43 = .ok (.iinc 6 1, 3) := by decide +kernel
theorem dX2_digestLighters_46 : decode cX2_digestLighters 46 = .ok (.goto (-26), 3) := by decide +kernel
theorem dX2_digestLighters_49 : decode cX2_digestLighters 49 = .ok (.iconst 0, 1) := by decide +kernel
theorem dX2_digestLighters_50 : decode cX2_digestLighters 50 = .ok (.istore 6, 2) := by decide +kernel
theorem dX2_digestLighters_52 : decode cX2_digestLighters 52 = .ok (.iload 6, 2) := by decide +kernel
theorem dX2_digestLighters_54 : decode cX2_digestLighters 54 = .ok (.aload_n 0, 1) := by decide +kernel
theorem dX2_digestLighters_55 : decode cX2_digestLighters 55 = .ok (.getfield 12, 3) := by decide +kernel
theorem dX2_digestLighters_58 : decode cX2_digestLighters 58 = .ok (.getfield 98, 3) := by decide +kernel
theorem dX2_digestLighters_61 : decode cX2_digestLighters 61 = .ok (.iload 5, 2) := by decide +kernel
theorem dX2_digestLighters_63 : decode cX2_digestLighters 63 = .ok (.iaload, 1) := by decide +kernel
theorem dX2_digestLighters_64 : decode cX2_digestLighters 64 = .ok (.if_icmp .ge 30, 3) := by decide +kernel
theorem dX2_digestLighters_67 : decode cX2_digestLighters 67 = .ok (.lload_n 3, 1) := by decide +kernel
theorem dX2_digestLighters_68 : decode cX2_digestLighters 68 = .ok (.ldc2_w 208, 3) := by decide +kernel
theorem dX2_digestLighters_71 : decode cX2_digestLighters 71 = .ok (.lmul, 1) := by decide +kernel
theorem dX2_digestLighters_72 : decode cX2_digestLighters 72 = .ok (.aload_n 0, 1) := by decide +kernel
theorem dX2_digestLighters_73 : decode cX2_digestLighters 73 = .ok (.getfield 12, 3) := by decide +kernel
theorem dX2_digestLighters_76 : decode cX2_digestLighters 76 = .ok (.getfield 257, 3) := by decide +kernel
theorem dX2_digestLighters_79 : decode cX2_digestLighters 79 = .ok (.iload 5, 2) := by decide +kernel
theorem dX2_digestLighters_81 : decode cX2_digestLighters 81 = .ok (.aaload, 1) := by decide +kernel
theorem dX2_digestLighters_82 : decode cX2_digestLighters 82 = .ok (.iload 6, 2) := by decide +kernel
theorem dX2_digestLighters_84 : decode cX2_digestLighters 84 = .ok (.iaload, 1) := by decide +kernel
theorem dX2_digestLighters_85 : decode cX2_digestLighters 85 = .ok (.i2l, 1) := by decide +kernel
theorem dX2_digestLighters_86 : decode cX2_digestLighters 86 = .ok (.ladd, 1) := by decide +kernel
theorem dX2_digestLighters_87 : decode cX2_digestLighters 87 = .ok (.lstore_n 3, 1) := by decide +kernel
theorem dX2_digestLighters_88 : decode cX2_digestLighters 88 = .ok (.iinc 6 1, 3) := by decide +kernel
theorem dX2_digestLighters_91 : decode cX2_digestLighters 91 = .ok (.goto (-39), 3) := by decide +kernel
theorem dX2_digestLighters_94 : decode cX2_digestLighters 94 = .ok (.iinc 5 1, 3) := by decide +kernel
theorem dX2_digestLighters_97 : decode cX2_digestLighters 97 = .ok (.goto (-92), 3) := by decide +kernel
theorem dX2_digestLighters_100 : decode cX2_digestLighters 100 = .ok (.lload_n 3, 1) := by decide +kernel
theorem dX2_digestLighters_101 : decode cX2_digestLighters 101 = .ok (.lreturn, 1) := by decide +kernel
theorem dX3_init_0 : decode cX3_init 0 = .ok (.aload_n 0, 1) := by decide +kernel
theorem dX3_init_1 : decode cX3_init 1 = .ok (.invokespecial 1, 3) := by decide +kernel
theorem dX3_init_4 : decode cX3_init 4 = .ok (.aload_n 0, 1) := by decide +kernel
theorem dX3_init_5 : decode cX3_init 5 = .ok (.bipush 12, 2) := by decide +kernel
theorem dX3_init_7 : decode cX3_init 7 = .ok (.newarray .int, 2) := by decide +kernel
theorem dX3_init_9 : decode cX3_init 9 = .ok (.putfield 9, 3) := by decide +kernel
theorem dX3_init_12 : decode cX3_init 12 = .ok (.aload_n 0, 1) := by decide +kernel
theorem dX3_init_13 : decode cX3_init 13 = .ok (.bipush 54, 2) := by decide +kernel
theorem dX3_init_15 : decode cX3_init 15 = .ok (.newarray .int, 2) := by decide +kernel
theorem dX3_init_17 : decode cX3_init 17 = .ok (.putfield 13, 3) := by decide +kernel
theorem dX3_init_20 : decode cX3_init 20 = .ok (.aload_n 0, 1) := by decide +kernel
theorem dX3_init_21 : decode cX3_init 21 = .ok (.sipush 144, 3) := by decide +kernel
theorem dX3_init_24 : decode cX3_init 24 = .ok (.newarray .int, 2) := by decide +kernel
theorem dX3_init_26 : decode cX3_init 26 = .ok (.putfield 16, 3) := by decide +kernel
theorem dX3_init_29 : decode cX3_init 29 = .ok (.aload_n 0, 1) := by decide +kernel
theorem dX3_init_30 : decode cX3_init 30 = .ok (.sipush 160, 3) := by decide +kernel
theorem dX3_init_33 : decode cX3_init 33 = .ok (.newarray .int, 2) := by decide +kernel
theorem dX3_init_35 : decode cX3_init 35 = .ok (.putfield 19, 3) := by decide +kernel
theorem dX3_init_38 : decode cX3_init 38 = .ok (.aload_n 0, 1) := by decide +kernel
theorem dX3_init_39 : decode cX3_init 39 = .ok (.bipush 40, 2) := by decide +kernel
theorem dX3_init_41 : decode cX3_init 41 = .ok (.newarray .int, 2) := by decide +kernel
theorem dX3_init_43 : decode cX3_init 43 = .ok (.putfield 22, 3) := by decide +kernel
theorem dX3_init_46 : decode cX3_init 46 = .ok (.aload_n 0, 1) := by decide +kernel
theorem dX3_init_47 : decode cX3_init 47 = .ok (.bipush 40, 2) := by decide +kernel
theorem dX3_init_49 : decode cX3_init 49 = .ok (.newarray .int, 2) := by decide +kernel
theorem dX3_init_51 : decode cX3_init 51 = .ok (.putfield 25, 3) := by decide +kernel
theorem dX3_init_54 : decode cX3_init 54 = .ok (.aload_n 0, 1) := by decide +kernel
theorem dX3_init_55 : decode cX3_init 55 = .ok (.bipush 10, 2) := by decide +kernel
theorem dX3_init_57 : decode cX3_init 57 = .ok (.newarray .int, 2) := by decide +kernel
theorem dX3_init_59 : decode cX3_init 59 = .ok (.putfield 28, 3) := by decide +kernel
theorem dX3_init_62 : decode cX3_init 62 = .ok (.aload_n 0, 1) := by decide +kernel
theorem dX3_init_63 : decode cX3_init 63 = .ok (.iconst 3, 1) := by decide +kernel
theorem dX3_init_64 : decode cX3_init 64 = .ok (.newarray .int, 2) := by decide +kernel
theorem dX3_init_66 : decode cX3_init 66 = .ok (.putfield 31, 3) := by decide +kernel
theorem dX3_init_69 : decode cX3_init 69 = .ok (.return_, 1) := by decide +kernel
theorem dX3_thrown_0 : decode cX3_thrown 0 = .ok (.aload_n 0, 1) := by decide +kernel
theorem dX3_thrown_1 : decode cX3_thrown 1 = .ok (.getfield 34, 3) := by decide +kernel
theorem dX3_thrown_4 : decode cX3_thrown 4 = .ok (.ireturn, 1) := by decide +kernel
theorem dX3_fail_0 : decode cX3_fail 0 = .ok (.aload_n 0, 1) := by decide +kernel
theorem dX3_fail_1 : decode cX3_fail 1 = .ok (.iload_n 1, 1) := by decide +kernel
theorem dX3_fail_2 : decode cX3_fail 2 = .ok (.putfield 34, 3) := by decide +kernel
theorem dX3_fail_5 : decode cX3_fail 5 = .ok (.iconst 0, 1) := by decide +kernel
theorem dX3_fail_6 : decode cX3_fail 6 = .ok (.ireturn, 1) := by decide +kernel
theorem dX3_isIn_0 : decode cX3_isIn 0 = .ok (.iload_n 0, 1) := by decide +kernel
theorem dX3_isIn_1 : decode cX3_isIn 1 = .ok (.iload_n 1, 1) := by decide +kernel
theorem dX3_isIn_2 : decode cX3_isIn 2 = .ok (.if_icmp .lt 12, 3) := by decide +kernel
theorem dX3_isIn_5 : decode cX3_isIn 5 = .ok (.iload_n 0, 1) := by decide +kernel
theorem dX3_isIn_6 : decode cX3_isIn 6 = .ok (.iload_n 2, 1) := by decide +kernel
theorem dX3_isIn_7 : decode cX3_isIn 7 = .ok (.if_icmp .gt 7, 3) := by decide +kernel
theorem dX3_isIn_10 : decode cX3_isIn 10 = .ok (.iconst 1, 1) := by decide +kernel
theorem dX3_isIn_11 : decode cX3_isIn 11 = .ok (.goto 4, 3) := by decide +kernel
theorem dX3_isIn_14 : decode cX3_isIn 14 = .ok (.iconst 0, 1) := by decide +kernel
theorem dX3_isIn_15 : decode cX3_isIn 15 = .ok (.ireturn, 1) := by decide +kernel
set_option maxRecDepth 20000 in
theorem ggX3_isCorner_X3_isIn : GoodIn wsX3_isCorner wsX3_isIn := goodIn_r _ [5] (by decide +kernel) (by decide +kernel)
set_option maxRecDepth 20000 in
theorem gX3_isCorner_X3_isIn : GoodIn wsX3_isCorner (va_wsS RX3 41 yX3_isIn wsX3_isIn) := goodIn_app (goodIn_of _ (by decide +kernel)) ggX3_isCorner_X3_isIn
theorem dX3_isCorner_0 : decode cX3_isCorner 0 = .ok (.iload_n 1, 1) := by decide +kernel
theorem dX3_isCorner_1 : decode cX3_isCorner 1 = .ok (.iconst 0, 1) := by decide +kernel
theorem dX3_isCorner_2 : decode cX3_isCorner 2 = .ok (.aload_n 0, 1) := by decide +kernel
theorem dX3_isCorner_3 : decode cX3_isCorner 3 = .ok (.getfield 38, 3) := by decide +kernel
theorem dX3_isCorner_6 : decode cX3_isCorner 6 = .ok (.iconst 1, 1) := by decide +kernel
theorem dX3_isCorner_7 : decode cX3_isCorner 7 = .ok (.isub, 1) := by decide +kernel
theorem dX3_isCorner_8 : decode cX3_isCorner 8 = .ok (.invokestatic 41, 3) := by decide +kernel
theorem dX3_isCorner_11 : decode cX3_isCorner 11 = .ok (.ireturn, 1) := by decide +kernel
set_option maxRecDepth 20000 in
theorem ggX3_isStreet_X3_isIn : GoodIn wsX3_isStreet wsX3_isIn := goodIn_r _ [5] (by decide +kernel) (by decide +kernel)
set_option maxRecDepth 20000 in
theorem gX3_isStreet_X3_isIn : GoodIn wsX3_isStreet (va_wsS RX3 41 yX3_isIn wsX3_isIn) := goodIn_app (goodIn_of _ (by decide +kernel)) ggX3_isStreet_X3_isIn
theorem dX3_isStreet_0 : decode cX3_isStreet 0 = .ok (.iload_n 1, 1) := by decide +kernel
theorem dX3_isStreet_1 : decode cX3_isStreet 1 = .ok (.iconst 0, 1) := by decide +kernel
theorem dX3_isStreet_2 : decode cX3_isStreet 2 = .ok (.aload_n 0, 1) := by decide +kernel
theorem dX3_isStreet_3 : decode cX3_isStreet 3 = .ok (.getfield 45, 3) := by decide +kernel
theorem dX3_isStreet_6 : decode cX3_isStreet 6 = .ok (.iconst 1, 1) := by decide +kernel
theorem dX3_isStreet_7 : decode cX3_isStreet 7 = .ok (.isub, 1) := by decide +kernel
theorem dX3_isStreet_8 : decode cX3_isStreet 8 = .ok (.invokestatic 41, 3) := by decide +kernel
theorem dX3_isStreet_11 : decode cX3_isStreet 11 = .ok (.ireturn, 1) := by decide +kernel
set_option maxRecDepth 20000 in
theorem ggX3_isLamp_X3_isIn : GoodIn wsX3_isLamp wsX3_isIn := goodIn_r _ [5] (by decide +kernel) (by decide +kernel)
set_option maxRecDepth 20000 in
theorem gX3_isLamp_X3_isIn : GoodIn wsX3_isLamp (va_wsS RX3 41 yX3_isIn wsX3_isIn) := goodIn_app (goodIn_of _ (by decide +kernel)) ggX3_isLamp_X3_isIn
theorem dX3_isLamp_0 : decode cX3_isLamp 0 = .ok (.iload_n 1, 1) := by decide +kernel
theorem dX3_isLamp_1 : decode cX3_isLamp 1 = .ok (.iconst 0, 1) := by decide +kernel
theorem dX3_isLamp_2 : decode cX3_isLamp 2 = .ok (.aload_n 0, 1) := by decide +kernel
theorem dX3_isLamp_3 : decode cX3_isLamp 3 = .ok (.getfield 48, 3) := by decide +kernel
theorem dX3_isLamp_6 : decode cX3_isLamp 6 = .ok (.iconst 1, 1) := by decide +kernel
theorem dX3_isLamp_7 : decode cX3_isLamp 7 = .ok (.isub, 1) := by decide +kernel
theorem dX3_isLamp_8 : decode cX3_isLamp 8 = .ok (.invokestatic 41, 3) := by decide +kernel
theorem dX3_isLamp_11 : decode cX3_isLamp 11 = .ok (.ireturn, 1) := by decide +kernel
set_option maxRecDepth 20000 in
theorem ggX3_isLighter_X3_isIn : GoodIn wsX3_isLighter wsX3_isIn := goodIn_r _ [5] (by decide +kernel) (by decide +kernel)
set_option maxRecDepth 20000 in
theorem gX3_isLighter_X3_isIn : GoodIn wsX3_isLighter (va_wsS RX3 41 yX3_isIn wsX3_isIn) := goodIn_app (goodIn_of _ (by decide +kernel)) ggX3_isLighter_X3_isIn
theorem dX3_isLighter_0 : decode cX3_isLighter 0 = .ok (.iload_n 1, 1) := by decide +kernel
theorem dX3_isLighter_1 : decode cX3_isLighter 1 = .ok (.iconst 0, 1) := by decide +kernel
theorem dX3_isLighter_2 : decode cX3_isLighter 2 = .ok (.aload_n 0, 1) := by decide +kernel
theorem dX3_isLighter_3 : decode cX3_isLighter 3 = .ok (.getfield 51, 3) := by decide +kernel
theorem dX3_isLighter_6 : decode cX3_isLighter 6 = .ok (.iconst 1, 1) := by decide +kernel
theorem dX3_isLighter_7 : decode cX3_isLighter 7 = .ok (.isub, 1) := by decide +kernel
theorem dX3_isLighter_8 : decode cX3_isLighter 8 = .ok (.invokestatic 41, 3) := by decide +kernel
theorem dX3_isLighter_11 : decode cX3_isLighter 11 = .ok (.ireturn, 1) := by decide +kernel
theorem dX3_ro_0 : decode cX3_ro 0 = .ok (.aload_n 0, 1) := by decide +kernel
theorem dX3_ro_1 : decode cX3_ro 1 = .ok (.getfield 13, 3) := by decide +kernel
theorem dX3_ro_4 : decode cX3_ro 4 = .ok (.iconst 3, 1) := by decide +kernel
theorem dX3_ro_5 : decode cX3_ro 5 = .ok (.iload_n 1, 1) := by decide +kernel
theorem dX3_ro_6 : decode cX3_ro 6 = .ok (.imul, 1) := by decide +kernel
theorem dX3_ro_7 : decode cX3_ro 7 = .ok (.iload_n 2, 1) := by decide +kernel
theorem dX3_ro_8 : decode cX3_ro 8 = .ok (.iadd, 1) := by decide +kernel
theorem dX3_ro_9 : decode cX3_ro 9 = .ok (.iaload, 1) := by decide +kernel
theorem dX3_ro_10 : decode cX3_ro 10 = .ok (.ireturn, 1) := by decide +kernel
theorem dX3_la_0 : decode cX3_la 0 = .ok (.aload_n 0, 1) := by decide +kernel
theorem dX3_la_1 : decode cX3_la 1 = .ok (.getfield 19, 3) := by decide +kernel
theorem dX3_la_4 : decode cX3_la 4 = .ok (.bipush 8, 2) := by decide +kernel
theorem dX3_la_6 : decode cX3_la 6 = .ok (.iload_n 1, 1) := by decide +kernel
theorem dX3_la_7 : decode cX3_la 7 = .ok (.imul, 1) := by decide +kernel
theorem dX3_la_8 : decode cX3_la 8 = .ok (.iload_n 2, 1) := by decide +kernel
theorem dX3_la_9 : decode cX3_la 9 = .ok (.iadd, 1) := by decide +kernel
theorem dX3_la_10 : decode cX3_la 10 = .ok (.iaload, 1) := by decide +kernel
theorem dX3_la_11 : decode cX3_la 11 = .ok (.ireturn, 1) := by decide +kernel
theorem dX3_setLamp_0 : decode cX3_setLamp 0 = .ok (.aload_n 0, 1) := by decide +kernel
theorem dX3_setLamp_1 : decode cX3_setLamp 1 = .ok (.getfield 19, 3) := by decide +kernel
theorem dX3_setLamp_4 : decode cX3_setLamp 4 = .ok (.bipush 8, 2) := by decide +kernel
theorem dX3_setLamp_6 : decode cX3_setLamp 6 = .ok (.iload_n 1, 1) := by decide +kernel
theorem dX3_setLamp_7 : decode cX3_setLamp 7 = .ok (.imul, 1) := by decide +kernel
theorem dX3_setLamp_8 : decode cX3_setLamp 8 = .ok (.iload_n 2, 1) := by decide +kernel
theorem dX3_setLamp_9 : decode cX3_setLamp 9 = .ok (.iadd, 1) := by decide +kernel
theorem dX3_setLamp_10 : decode cX3_setLamp 10 = .ok (.iload_n 3, 1) := by decide +kernel
theorem dX3_setLamp_11 : decode cX3_setLamp 11 = .ok (.iastore, 1) := by decide +kernel
theorem dX3_setLamp_12 : decode cX3_setLamp 12 = .ok (.return_, 1) := by decide +kernel
theorem dX3_pe_0 : decode cX3_pe 0 = .ok (.aload_n 0, 1) := by decide +kernel
theorem dX3_pe_1 : decode cX3_pe 1 = .ok (.getfield 22, 3) := by decide +kernel
theorem dX3_pe_4 : decode cX3_pe 4 = .ok (.bipush 10, 2) := by decide +kernel
theorem dX3_pe_6 : decode cX3_pe 6 = .ok (.iload_n 1, 1) := by decide +kernel
theorem dX3_pe_7 : decode cX3_pe 7 = .ok (.imul, 1) := by decide +kernel
theorem dX3_pe_8 : decode cX3_pe 8 = .ok (.iload_n 2, 1) := by decide +kernel
theorem dX3_pe_9 : decode cX3_pe 9 = .ok (.iadd, 1) := by decide +kernel
theorem dX3_pe_10 : decode cX3_pe 10 = .ok (.iaload, 1) := by decide +kernel
theorem dX3_pe_11 : decode cX3_pe 11 = .ok (.ireturn, 1) := by decide +kernel
theorem dX3_put_0 : decode cX3_put 0 = .ok (.aload_n 0, 1) := by decide +kernel
theorem dX3_put_1 : decode cX3_put 1 = .ok (.getfield 22, 3) := by decide +kernel
theorem dX3_put_4 : decode cX3_put 4 = .ok (.bipush 10, 2) := by decide +kernel
theorem dX3_put_6 : decode cX3_put 6 = .ok (.iload_n 1, 1) := by decide +kernel
theorem dX3_put_7 : decode cX3_put 7 = .ok (.imul, 1) := by decide +kernel
theorem dX3_put_8 : decode cX3_put 8 = .ok (.iload_n 2, 1) := by decide +kernel
theorem dX3_put_9 : decode cX3_put 9 = .ok (.iadd, 1) := by decide +kernel
theorem dX3_put_10 : decode cX3_put 10 = .ok (.iload_n 3, 1) := by decide +kernel
theorem dX3_put_11 : decode cX3_put 11 = .ok (.iastore, 1) := by decide +kernel
theorem dX3_put_12 : decode cX3_put 12 = .ok (.return_, 1) := by decide +kernel
set_option maxRecDepth 20000 in
theorem ggX3_reckon_X3_ro : GoodIn wsX3_reckon wsX3_ro := goodIn_r _ [16, 17, 18, 19, 20, 21, 22, 23, 24, 25, 26, 27, 28, 29, 30] (by decide +kernel) (by decide +kernel)
set_option maxRecDepth 20000 in
theorem gX3_reckon_X3_ro : GoodIn wsX3_reckon (wsV RX3 54 RX3 yX3_ro wsX3_ro) := goodIn_app (goodIn_of _ (by decide +kernel)) ggX3_reckon_X3_ro
theorem dX3_reckon_0 : decode cX3_reckon 0 = .ok (.iconst 0, 1) := by decide +kernel
theorem dX3_reckon_1 : decode cX3_reckon 1 = .ok (.istore_n 1, 1) := by decide +kernel
theorem dX3_reckon_2 : decode cX3_reckon 2 = .ok (.iload_n 1, 1) := by decide +kernel
theorem dX3_reckon_3 : decode cX3_reckon 3 = .ok (.aload_n 0, 1) := by decide +kernel
theorem dX3_reckon_4 : decode cX3_reckon 4 = .ok (.getfield 38, 3) := by decide +kernel
theorem dX3_reckon_7 : decode cX3_reckon 7 = .ok (.if_icmp .ge 48, 3) := by decide +kernel
theorem dX3_reckon_10 : decode cX3_reckon 10 = .ok (.iconst 0, 1) := by decide +kernel
theorem dX3_reckon_11 : decode cX3_reckon 11 = .ok (.istore_n 2, 1) := by decide +kernel
theorem dX3_reckon_12 : decode cX3_reckon 12 = .ok (.iload_n 2, 1) := by decide +kernel
theorem dX3_reckon_13 : decode cX3_reckon 13 = .ok (.aload_n 0, 1) := by decide +kernel
theorem dX3_reckon_14 : decode cX3_reckon 14 = .ok (.getfield 38, 3) := by decide +kernel
theorem dX3_reckon_17 : decode cX3_reckon 17 = .ok (.if_icmp .ge 32, 3) := by decide +kernel
theorem dX3_reckon_20 : decode cX3_reckon 20 = .ok (.aload_n 0, 1) := by decide +kernel
theorem dX3_reckon_21 : decode cX3_reckon 21 = .ok (.getfield 16, 3) := by decide +kernel
theorem dX3_reckon_24 : decode cX3_reckon 24 = .ok (.bipush 12, 2) := by decide +kernel
theorem dX3_reckon_26 : decode cX3_reckon 26 = .ok (.iload_n 1, 1) := by decide +kernel
theorem dX3_reckon_27 : decode cX3_reckon 27 = .ok (.imul, 1) := by decide +kernel
theorem dX3_reckon_28 : decode cX3_reckon 28 = .ok (.iload_n 2, 1) := by decide +kernel
theorem dX3_reckon_29 : decode cX3_reckon 29 = .ok (.iadd, 1) := by decide +kernel
theorem dX3_reckon_30 : decode cX3_reckon 30 = .ok (.iload_n 1, 1) := by decide +kernel
theorem dX3_reckon_31 : decode cX3_reckon 31 = .ok (.iload_n 2, 1) := by decide +kernel
theorem dX3_reckon_32 : decode cX3_reckon 32 = .ok (.if_icmp .ne 7, 3) := by decide +kernel
theorem dX3_reckon_35 : decode cX3_reckon 35 = .ok (.iconst 0, 1) := by decide +kernel
theorem dX3_reckon_36 : decode cX3_reckon 36 = .ok (.goto 6, 3) := by decide +kernel
theorem dX3_reckon_39 : decode cX3_reckon 39 = .ok (.sipush 9999, 3) := by decide +kernel
theorem dX3_reckon_42 : decode cX3_reckon 42 = .ok (.iastore, 1) := by decide +kernel
theorem dX3_reckon_43 : decode cX3_reckon 43 = .ok (.iinc 2 1, 3) := by decide +kernel
theorem dX3_reckon_46 : decode cX3_reckon 46 = .ok (.goto (-34), 3) := by decide +kernel
theorem dX3_reckon_49 : decode cX3_reckon 49 = .ok (.iinc 1 1, 3) := by decide +kernel
theorem dX3_reckon_52 : decode cX3_reckon 52 = .ok (.goto (-50), 3) := by decide +kernel
theorem dX3_reckon_55 : decode cX3_reckon 55 = .ok (.iconst 0, 1) := by decide +kernel
theorem dX3_reckon_56 : decode cX3_reckon 56 = .ok (.istore_n 1, 1) := by decide +kernel
theorem dX3_reckon_57 : decode cX3_reckon 57 = .ok (.iload_n 1, 1) := by decide +kernel
theorem dX3_reckon_58 : decode cX3_reckon 58 = .ok (.aload_n 0, 1) := by decide +kernel
theorem dX3_reckon_59 : decode cX3_reckon 59 = .ok (.getfield 45, 3) := by decide +kernel
theorem dX3_reckon_62 : decode cX3_reckon 62 = .ok (.if_icmp .ge 111, 3) := by decide +kernel
theorem dX3_reckon_65 : decode cX3_reckon 65 = .ok (.iconst 0, 1) := by decide +kernel
theorem dX3_reckon_66 : decode cX3_reckon 66 = .ok (.istore_n 2, 1) := by decide +kernel
theorem dX3_reckon_67 : decode cX3_reckon 67 = .ok (.iload_n 2, 1) := by decide +kernel
theorem dX3_reckon_68 : decode cX3_reckon 68 = .ok (.iconst 2, 1) := by decide +kernel
theorem dX3_reckon_69 : decode cX3_reckon 69 = .ok (.if_icmp .ge 98, 3) := by decide +kernel
theorem dX3_reckon_72 : decode cX3_reckon 72 = .ok (.aload_n 0, 1) := by decide +kernel
theorem dX3_reckon_73 : decode cX3_reckon 73 = .ok (.iload_n 1, 1) := by decide +kernel
theorem dX3_reckon_74 : decode cX3_reckon 74 = .ok (.iload_n 2, 1) := by decide +kernel
theorem dX3_reckon_75 : decode cX3_reckon 75 = .ok (.ifCond .ne 7, 3) := by decide +kernel
theorem dX3_reckon_78 : decode cX3_reckon 78 = .ok (.iconst 0, 1) := by decide +kernel
theorem dX3_reckon_79 : decode cX3_reckon 79 = .ok (.goto 4, 3) := by decide +kernel
theorem dX3_reckon_82 : decode cX3_reckon 82 = .ok (.iconst 1, 1) := by decide +kernel
theorem dX3_reckon_83 : decode cX3_reckon 83 = .ok (.invokevirtual 54, 3) := by decide +kernel
theorem dX3_reckon_86 : decode cX3_reckon 86 = .ok (.istore_n 3, 1) := by decide +kernel
theorem dX3_reckon_87 : decode cX3_reckon 87 = .ok (.aload_n 0, 1) := by decide +kernel
theorem dX3_reckon_88 : decode cX3_reckon 88 = .ok (.iload_n 1, 1) := by decide +kernel
theorem dX3_reckon_89 : decode cX3_reckon 89 = .ok (.iload_n 2, 1) := by decide +kernel
theorem dX3_reckon_90 : decode cX3_reckon 90 = .ok (.ifCond .ne 7, 3) := by decide +kernel
theorem dX3_reckon_93 : decode cX3_reckon 93 = .ok (.iconst 1, 1) := by decide +kernel
theorem dX3_reckon_94 : decode cX3_reckon 94 = .ok (.goto 4, 3) := by decide +kernel
theorem dX3_reckon_97 : decode cX3_reckon 97 = .ok (.iconst 0, 1) := by decide +kernel
theorem dX3_reckon_98 : decode cX3_reckon 98 = .ok (.invokevirtual 54, 3) := by decide +kernel
theorem dX3_reckon_101 : decode cX3_reckon 101 = .ok (.istore 4, 2) := by decide +kernel
theorem dX3_reckon_103 : decode cX3_reckon 103 = .ok (.aload_n 0, 1) := by decide +kernel
theorem dX3_reckon_104 : decode cX3_reckon 104 = .ok (.iload_n 1, 1) := by decide +kernel
theorem dX3_reckon_105 : decode cX3_reckon 105 = .ok (.iconst 2, 1) := by decide +kernel
theorem dX3_reckon_106 : decode cX3_reckon 106 = .ok (.invokevirtual 54, 3) := by decide +kernel
theorem dX3_reckon_109 : decode cX3_reckon 109 = .ok (.iconst 0, 1) := by decide +kernel
theorem dX3_reckon_110 : decode cX3_reckon 110 = .ok (.aload_n 0, 1) := by decide +kernel
theorem dX3_reckon_111 : decode cX3_reckon 111 = .ok (.getfield 9, 3) := by decide +kernel
theorem dX3_reckon_114 : decode cX3_reckon 114 = .ok (.iload 4, 2) := by decide +kernel
theorem dX3_reckon_116 : decode cX3_reckon 116 = .ok (.iaload, 1) := by decide +kernel
theorem dX3_reckon_117 : decode cX3_reckon 117 = .ok (.aload_n 0, 1) := by decide +kernel
theorem dX3_reckon_118 : decode cX3_reckon 118 = .ok (.getfield 9, 3) := by decide +kernel
theorem dX3_reckon_121 : decode cX3_reckon 121 = .ok (.iload_n 3, 1) := by decide +kernel
theorem dX3_reckon_122 : decode cX3_reckon 122 = .ok (.iaload, 1) := by decide +kernel
theorem dX3_reckon_123 : decode cX3_reckon 123 = .ok (.isub, 1) := by decide +kernel
theorem dX3_reckon_124 : decode cX3_reckon 124 = .ok (.invokestatic 58, 3) := by decide +kernel
theorem dX3_reckon_127 : decode cX3_reckon 127 = .ok (.iconst 2, 1) := by decide +kernel
theorem dX3_reckon_128 : decode cX3_reckon 128 = .ok (.idiv, 1) := by decide +kernel
theorem dX3_reckon_129 : decode cX3_reckon 129 = .ok (.iadd, 1) := by decide +kernel
theorem dX3_reckon_130 : decode cX3_reckon 130 = .ok (.istore 5, 2) := by decide +kernel
theorem dX3_reckon_132 : decode cX3_reckon 132 = .ok (.aload_n 0, 1) := by decide +kernel
theorem dX3_reckon_133 : decode cX3_reckon 133 = .ok (.getfield 16, 3) := by decide +kernel
theorem dX3_reckon_136 : decode cX3_reckon 136 = .ok (.bipush 12, 2) := by decide +kernel
theorem dX3_reckon_138 : decode cX3_reckon 138 = .ok (.iload_n 3, 1) := by decide +kernel
theorem dX3_reckon_139 : decode cX3_reckon 139 = .ok (.imul, 1) := by decide +kernel
theorem dX3_reckon_140 : decode cX3_reckon 140 = .ok (.iload 4, 2) := by decide +kernel
theorem dX3_reckon_142 : decode cX3_reckon 142 = .ok (.iadd, 1) := by decide +kernel
theorem dX3_reckon_143 : decode cX3_reckon 143 = .ok (.aload_n 0, 1) := by decide +kernel
theorem dX3_reckon_144 : decode cX3_reckon 144 = .ok (.getfield 16, 3) := by decide +kernel
theorem dX3_reckon_147 : decode cX3_reckon 147 = .ok (.bipush 12, 2) := by decide +kernel
theorem dX3_reckon_149 : decode cX3_reckon 149 = .ok (.iload_n 3, 1) := by decide +kernel
theorem dX3_reckon_150 : decode cX3_reckon 150 = .ok (.imul, 1) := by decide +kernel
theorem dX3_reckon_151 : decode cX3_reckon 151 = .ok (.iload 4, 2) := by decide +kernel
theorem dX3_reckon_153 : decode cX3_reckon 153 = .ok (.iadd, 1) := by decide +kernel
theorem dX3_reckon_154 : decode cX3_reckon 154 = .ok (.iaload, 1) := by decide +kernel
theorem dX3_reckon_155 : decode cX3_reckon 155 = .ok (.iload 5, 2) := by decide +kernel
theorem dX3_reckon_157 : decode cX3_reckon 157 = .ok (.invokestatic 63, 3) := by decide +kernel
theorem dX3_reckon_160 : decode cX3_reckon 160 = .ok (.iastore, 1) := by decide +kernel
theorem dX3_reckon_161 : decode cX3_reckon 161 = .ok (.iinc 2 1, 3) := by decide +kernel
theorem dX3_reckon_164 : decode cX3_reckon 164 = .ok (.goto (-97), 3) := by decide +kernel
theorem dX3_reckon_167 : decode cX3_reckon 167 = .ok (.iinc 1 1, 3) := by decide +kernel
theorem dX3_reckon_170 : decode cX3_reckon 170 = .ok (.goto (-113), 3) := by decide +kernel
theorem dX3_reckon_173 : decode cX3_reckon 173 = .ok (.iconst 0, 1) := by decide +kernel
theorem dX3_reckon_174 : decode cX3_reckon 174 = .ok (.istore_n 1, 1) := by decide +kernel
theorem dX3_reckon_175 : decode cX3_reckon 175 = .ok (.iload_n 1, 1) := by decide +kernel
theorem dX3_reckon_176 : decode cX3_reckon 176 = .ok (.aload_n 0, 1) := by decide +kernel
theorem dX3_reckon_177 : decode cX3_reckon 177 = .ok (.getfield 38, 3) := by decide +kernel
theorem dX3_reckon_180 : decode cX3_reckon 180 = .ok (.if_icmp .ge 89, 3) := by decide +kernel
theorem dX3_reckon_183 : decode cX3_reckon 183 = .ok (.iconst 0, 1) := by decide +kernel
theorem dX3_reckon_184 : decode cX3_reckon 184 = .ok (.istore_n 2, 1) := by decide +kernel
theorem dX3_reckon_185 : decode cX3_reckon 185 = .ok (.iload_n 2, 1) := by decide +kernel
theorem dX3_reckon_186 : decode cX3_reckon 186 = .ok (.aload_n 0, 1) := by decide +kernel
theorem dX3_reckon_187 : decode cX3_reckon 187 = .ok (.getfield 38, 3) := by decide +kernel
theorem dX3_reckon_190 : decode cX3_reckon 190 = .ok (.if_icmp .ge 73, 3) := by decide +kernel
theorem dX3_reckon_193 : decode cX3_reckon 193 = .ok (.iconst 0, 1) := by decide +kernel
theorem dX3_reckon_194 : decode cX3_reckon 194 = .ok (.istore_n 3, 1) := by decide +kernel
theorem dX3_reckon_195 : decode cX3_reckon 195 = .ok (.iload_n 3, 1) := by decide +kernel
theorem dX3_reckon_196 : decode cX3_reckon 196 = .ok (.aload_n 0, 1) := by decide +kernel
theorem dX3_reckon_197 : decode cX3_reckon 197 = .ok (.getfield 38, 3) := by decide +kernel
theorem dX3_reckon_200 : decode cX3_reckon 200 = .ok (.if_icmp .ge 57, 3) := by decide +kernel
theorem dX3_reckon_203 : decode cX3_reckon 203 = .ok (.aload_n 0, 1) := by decide +kernel
theorem dX3_reckon_204 : decode cX3_reckon 204 = .ok (.getfield 16, 3) := by decide +kernel
theorem dX3_reckon_207 : decode cX3_reckon 207 = .ok (.bipush 12, 2) := by decide +kernel
theorem dX3_reckon_209 : decode cX3_reckon 209 = .ok (.iload_n 2, 1) := by decide +kernel
theorem dX3_reckon_210 : decode cX3_reckon 210 = .ok (.imul, 1) := by decide +kernel
theorem dX3_reckon_211 : decode cX3_reckon 211 = .ok (.iload_n 3, 1) := by decide +kernel
theorem dX3_reckon_212 : decode cX3_reckon 212 = .ok (.iadd, 1) := by decide +kernel
theorem dX3_reckon_213 : decode cX3_reckon 213 = .ok (.aload_n 0, 1) := by decide +kernel
theorem dX3_reckon_214 : decode cX3_reckon 214 = .ok (.getfield 16, 3) := by decide +kernel
theorem dX3_reckon_217 : decode cX3_reckon 217 = .ok (.bipush 12, 2) := by decide +kernel
theorem dX3_reckon_219 : decode cX3_reckon 219 = .ok (.iload_n 2, 1) := by decide +kernel
theorem dX3_reckon_220 : decode cX3_reckon 220 = .ok (.imul, 1) := by decide +kernel
theorem dX3_reckon_221 : decode cX3_reckon 221 = .ok (.iload_n 3, 1) := by decide +kernel
theorem dX3_reckon_222 : decode cX3_reckon 222 = .ok (.iadd, 1) := by decide +kernel
theorem dX3_reckon_223 : decode cX3_reckon 223 = .ok (.iaload, 1) := by decide +kernel
theorem dX3_reckon_224 : decode cX3_reckon 224 = .ok (.aload_n 0, 1) := by decide +kernel
theorem dX3_reckon_225 : decode cX3_reckon 225 = .ok (.getfield 16, 3) := by decide +kernel
theorem dX3_reckon_228 : decode cX3_reckon 228 = .ok (.bipush 12, 2) := by decide +kernel
theorem dX3_reckon_230 : decode cX3_reckon 230 = .ok (.iload_n 2, 1) := by decide +kernel
theorem dX3_reckon_231 : decode cX3_reckon 231 = .ok (.imul, 1) := by decide +kernel
theorem dX3_reckon_232 : decode cX3_reckon 232 = .ok (.iload_n 1, 1) := by decide +kernel
theorem dX3_reckon_233 : decode cX3_reckon 233 = .ok (.iadd, 1) := by decide +kernel
theorem dX3_reckon_234 : decode cX3_reckon 234 = .ok (.iaload, 1) := by decide +kernel
theorem dX3_reckon_235 : decode cX3_reckon 235 = .ok (.aload_n 0, 1) := by decide +kernel
theorem dX3_reckon_236 : decode cX3_reckon 236 = .ok (.getfield 16, 3) := by decide +kernel
theorem dX3_reckon_239 : decode cX3_reckon 239 = .ok (.bipush 12, 2) := by decide +kernel
theorem dX3_reckon_241 : decode cX3_reckon 241 = .ok (.iload_n 1, 1) := by decide +kernel
theorem dX3_reckon_242 : decode cX3_reckon 242 = .ok (.imul, 1) := by decide +kernel
theorem dX3_reckon_243 : decode cX3_reckon 243 = .ok (.iload_n 3, 1) := by decide +kernel
theorem dX3_reckon_244 : decode cX3_reckon 244 = .ok (.iadd, 1) := by decide +kernel
theorem dX3_reckon_245 : decode cX3_reckon 245 = .ok (.iaload, 1) := by decide +kernel
theorem dX3_reckon_246 : decode cX3_reckon 246 = .ok (.iadd, 1) := by decide +kernel
theorem dX3_reckon_247 : decode cX3_reckon 247 = .ok (.invokestatic 63, 3) := by decide +kernel
theorem dX3_reckon_250 : decode cX3_reckon 250 = .ok (.iastore, 1) := by decide +kernel
theorem dX3_reckon_251 : decode cX3_reckon 251 = .ok (.iinc 3 1, 3) := by decide +kernel
theorem dX3_reckon_254 : decode cX3_reckon 254 = .ok (.goto (-59), 3) := by decide +kernel
theorem dX3_reckon_257 : decode cX3_reckon 257 = .ok (.iinc 2 1, 3) := by decide +kernel
theorem dX3_reckon_260 : decode cX3_reckon 260 = .ok (.goto (-75), 3) := by decide +kernel
theorem dX3_reckon_263 : decode cX3_reckon 263 = .ok (.iinc 1 1, 3) := by decide +kernel
theorem dX3_reckon_266 : decode cX3_reckon 266 = .ok (.goto (-91), 3) := by decide +kernel
theorem dX3_reckon_269 : decode cX3_reckon 269 = .ok (.return_, 1) := by decide +kernel
set_option maxRecDepth 20000 in
theorem ggX3_corner_X3_isIn : GoodIn wsX3_corner wsX3_isIn := goodIn_r _ [7] (by decide +kernel) (by decide +kernel)
set_option maxRecDepth 20000 in
theorem gX3_corner_X3_isIn : GoodIn wsX3_corner (va_wsS RX3 41 yX3_isIn wsX3_isIn) := goodIn_app (goodIn_of _ (by decide +kernel)) ggX3_corner_X3_isIn
set_option maxRecDepth 20000 in
theorem ggX3_corner_X3_fail : GoodIn wsX3_corner wsX3_fail := goodIn_r _ [11, 1, 30, 31, 32, 33, 34, 35, 36, 37, 38, 39, 40, 41, 42] (by decide +kernel) (by decide +kernel)
set_option maxRecDepth 20000 in
theorem gX3_corner_X3_fail : GoodIn wsX3_corner (wsV RX3 66 RX3 yX3_fail wsX3_fail) := goodIn_app (goodIn_of _ (by decide +kernel)) ggX3_corner_X3_fail
set_option maxRecDepth 20000 in
theorem ggX3_corner_X3_reckon : GoodIn wsX3_corner wsX3_reckon := goodIn_r _ [15, 2, 16, 17, 3, 18, 19, 20, 21, 22, 23, 24, 25, 26, 27, 6, 28, 29, 30, 31, 32, 33, 34, 35, 36, 37, 38, 39, 40, 41, 42] (by decide +kernel) (by decide +kernel)
set_option maxRecDepth 20000 in
theorem gX3_corner_X3_reckon : GoodIn wsX3_corner (wsV RX3 70 RX3 yX3_reckon wsX3_reckon) := goodIn_app (goodIn_of _ (by decide +kernel)) ggX3_corner_X3_reckon
theorem dX3_corner_0 : decode cX3_corner 0 = .ok (.aload_n 0, 1) := by decide +kernel
theorem dX3_corner_1 : decode cX3_corner 1 = .ok (.iconst 0, 1) := by decide +kernel
theorem dX3_corner_2 : decode cX3_corner 2 = .ok (.putfield 34, 3) := by decide +kernel
theorem dX3_corner_5 : decode cX3_corner 5 = .ok (.iload_n 1, 1) := by decide +kernel
theorem dX3_corner_6 : decode cX3_corner 6 = .ok (.iconst 0, 1) := by decide +kernel
theorem dX3_corner_7 : decode cX3_corner 7 = .ok (.bipush 30, 2) := by decide +kernel
theorem dX3_corner_9 : decode cX3_corner 9 = .ok (.invokestatic 41, 3) := by decide +kernel
theorem dX3_corner_12 : decode cX3_corner 12 = .ok (.ifCond .ne 9, 3) := by decide +kernel
theorem dX3_corner_15 : decode cX3_corner 15 = .ok (.aload_n 0, 1) := by decide +kernel
theorem dX3_corner_16 : decode cX3_corner 16 = .ok (.iconst 1, 1) := by decide +kernel
theorem dX3_corner_17 : decode cX3_corner 17 = .ok (.invokevirtual 66, 3) := by decide +kernel
theorem dX3_corner_20 : decode cX3_corner 20 = .ok (.ireturn, 1) := by decide +kernel
theorem dX3_corner_21 : decode cX3_corner 21 = .ok (.aload_n 0, 1) := by decide +kernel
theorem dX3_corner_22 : decode cX3_corner 22 = .ok (.getfield 38, 3) := by decide +kernel
theorem dX3_corner_25 : decode cX3_corner 25 = .ok (.bipush 12, 2) := by decide +kernel
theorem dX3_corner_27 : decode cX3_corner 27 = .ok (.if_icmp .ne 9, 3) := by decide +kernel
theorem dX3_corner_30 : decode cX3_corner 30 = .ok (.aload_n 0, 1) := by decide +kernel
theorem dX3_corner_31 : decode cX3_corner 31 = .ok (.iconst 2, 1) := by decide +kernel
theorem dX3_corner_32 : decode cX3_corner 32 = .ok (.invokevirtual 66, 3) := by decide +kernel
theorem dX3_corner_35 : decode cX3_corner 35 = .ok (.ireturn, 1) := by decide +kernel
theorem dX3_corner_36 : decode cX3_corner 36 = .ok (.aload_n 0, 1) := by decide +kernel
theorem dX3_corner_37 : decode cX3_corner 37 = .ok (.getfield 9, 3) := by decide +kernel
theorem dX3_corner_40 : decode cX3_corner 40 = .ok (.aload_n 0, 1) := by decide +kernel
theorem dX3_corner_41 : decode cX3_corner 41 = .ok (.getfield 38, 3) := by decide +kernel
theorem dX3_corner_44 : decode cX3_corner 44 = .ok (.iload_n 1, 1) := by decide +kernel
theorem dX3_corner_45 : decode cX3_corner 45 = .ok (.iastore, 1) := by decide +kernel
theorem dX3_corner_46 : decode cX3_corner 46 = .ok (.aload_n 0, 1) := by decide +kernel
theorem dX3_corner_47 : decode cX3_corner 47 = .ok (.dup, 1) := by decide +kernel
theorem dX3_corner_48 : decode cX3_corner 48 = .ok (.getfield 38, 3) := by decide +kernel
theorem dX3_corner_51 : decode cX3_corner 51 = .ok (.iconst 1, 1) := by decide +kernel
theorem dX3_corner_52 : decode cX3_corner 52 = .ok (.iadd, 1) := by decide +kernel
theorem dX3_corner_53 : decode cX3_corner 53 = .ok (.putfield 38, 3) := by decide +kernel
theorem dX3_corner_56 : decode cX3_corner 56 = .ok (.aload_n 0, 1) := by decide +kernel
theorem dX3_corner_57 : decode cX3_corner 57 = .ok (.invokevirtual 70, 3) := by decide +kernel
theorem dX3_corner_60 : decode cX3_corner 60 = .ok (.aload_n 0, 1) := by decide +kernel
theorem dX3_corner_61 : decode cX3_corner 61 = .ok (.getfield 38, 3) := by decide +kernel
theorem dX3_corner_64 : decode cX3_corner 64 = .ok (.iconst 1, 1) := by decide +kernel
theorem dX3_corner_65 : decode cX3_corner 65 = .ok (.isub, 1) := by decide +kernel
theorem dX3_corner_66 : decode cX3_corner 66 = .ok (.ireturn, 1) := by decide +kernel
set_option maxRecDepth 20000 in
theorem ggX3_street_X3_isCorner : GoodIn wsX3_street wsX3_isCorner := goodIn_r _ [13, 14, 15, 16, 12, 17, 39, 40, 41, 42, 43, 44, 45, 46, 47, 48, 49, 50, 51] (by decide +kernel) (by decide +kernel)
set_option maxRecDepth 20000 in
theorem gX3_street_X3_isCorner : GoodIn wsX3_street (wsV RX3 73 RX3 yX3_isCorner wsX3_isCorner) := goodIn_app (goodIn_of _ (by decide +kernel)) ggX3_street_X3_isCorner
set_option maxRecDepth 20000 in
theorem ggX3_street_X3_fail : GoodIn wsX3_street wsX3_fail := goodIn_r _ [21, 1, 39, 40, 41, 42, 43, 44, 45, 46, 47, 48, 49, 50, 51] (by decide +kernel) (by decide +kernel)
set_option maxRecDepth 20000 in
theorem gX3_street_X3_fail : GoodIn wsX3_street (wsV RX3 66 RX3 yX3_fail wsX3_fail) := goodIn_app (goodIn_of _ (by decide +kernel)) ggX3_street_X3_fail
set_option maxRecDepth 20000 in
theorem ggX3_street_X3_isIn : GoodIn wsX3_street wsX3_isIn := goodIn_r _ [17] (by decide +kernel) (by decide +kernel)
set_option maxRecDepth 20000 in
theorem gX3_street_X3_isIn : GoodIn wsX3_street (va_wsS RX3 41 yX3_isIn wsX3_isIn) := goodIn_app (goodIn_of _ (by decide +kernel)) ggX3_street_X3_isIn
set_option maxRecDepth 20000 in
theorem ggX3_street_X3_reckon : GoodIn wsX3_street wsX3_reckon := goodIn_r _ [25, 14, 26, 2, 27, 28, 29, 30, 31, 32, 33, 34, 35, 36, 37, 12, 38, 4, 39, 40, 41, 42, 43, 44, 45, 46, 47, 48, 49, 50, 51] (by decide +kernel) (by decide +kernel)
set_option maxRecDepth 20000 in
theorem gX3_street_X3_reckon : GoodIn wsX3_street (wsV RX3 70 RX3 yX3_reckon wsX3_reckon) := goodIn_app (goodIn_of _ (by decide +kernel)) ggX3_street_X3_reckon
theorem dX3_street_0 : decode cX3_street 0 = .ok (.aload_n 0, 1) := by decide +kernel
theorem dX3_street_1 : decode cX3_street 1 = .ok (.iconst 0, 1) := by decide +kernel
theorem dX3_street_2 : decode cX3_street 2 = .ok (.putfield 34, 3) := by decide +kernel
theorem dX3_street_5 : decode cX3_street 5 = .ok (.aload_n 0, 1) := by decide +kernel
theorem dX3_street_6 : decode cX3_street 6 = .ok (.iload_n 1, 1) := by decide +kernel
theorem dX3_street_7 : decode cX3_street 7 = .ok (.invokevirtual 73, 3) := by decide +kernel
theorem dX3_street_10 : decode cX3_street 10 = .ok (.ifCond .eq 11, 3) := by decide +kernel
theorem dX3_street_13 : decode cX3_street 13 = .ok (.aload_n 0, 1) := by decide +kernel
theorem dX3_street_14 : decode cX3_street 14 = .ok (.iload_n 2, 1) := by decide +kernel
theorem dX3_street_15 : decode cX3_street 15 = .ok (.invokevirtual 73, 3) := by decide +kernel
theorem dX3_street_18 : decode cX3_street 18 = .ok (.ifCond .ne 9, 3) := by decide +kernel
theorem dX3_street_21 : decode cX3_street 21 = .ok (.aload_n 0, 1) := by decide +kernel
theorem dX3_street_22 : decode cX3_street 22 = .ok (.iconst 1, 1) := by decide +kernel
theorem dX3_street_23 : decode cX3_street 23 = .ok (.invokevirtual 66, 3) := by decide +kernel
theorem dX3_street_26 : decode cX3_street 26 = .ok (.ireturn, 1) := by decide +kernel
theorem dX3_street_27 : decode cX3_street 27 = .ok (.iload_n 1, 1) := by decide +kernel
theorem dX3_street_28 : decode cX3_street 28 = .ok (.iload_n 2, 1) := by decide +kernel
theorem dX3_street_29 : decode cX3_street 29 = .ok (.if_icmp .eq 13, 3) := by decide +kernel
theorem dX3_street_32 : decode cX3_street 32 = .ok (.iload_n 3, 1) := by decide +kernel
theorem dX3_street_33 : decode cX3_street 33 = .ok (.iconst 1, 1) := by decide +kernel
theorem dX3_street_34 : decode cX3_street 34 = .ok (.bipush 9, 2) := by decide +kernel
theorem dX3_street_36 : decode cX3_street 36 = .ok (.invokestatic 41, 3) := by decide +kernel
theorem dX3_street_39 : decode cX3_street 39 = .ok (.ifCond .ne 9, 3) := by decide +kernel
theorem dX3_street_42 : decode cX3_street 42 = .ok (.aload_n 0, 1) := by decide +kernel
theorem dX3_street_43 : decode cX3_street 43 = .ok (.iconst 2, 1) := by decide +kernel
theorem dX3_street_44 : decode cX3_street 44 = .ok (.invokevirtual 66, 3) := by decide +kernel
theorem dX3_street_47 : decode cX3_street 47 = .ok (.ireturn, 1) := by decide +kernel
theorem dX3_street_48 : decode cX3_street 48 = .ok (.aload_n 0, 1) := by decide +kernel
theorem dX3_street_49 : decode cX3_street 49 = .ok (.getfield 45, 3) := by decide +kernel
theorem dX3_street_52 : decode cX3_street 52 = .ok (.bipush 18, 2) := by decide +kernel
theorem dX3_street_54 : decode cX3_street 54 = .ok (.if_icmp .ne 9, 3) := by decide +kernel
theorem dX3_street_57 : decode cX3_street 57 = .ok (.aload_n 0, 1) := by decide +kernel
theorem dX3_street_58 : decode cX3_street 58 = .ok (.iconst 3, 1) := by decide +kernel
theorem dX3_street_59 : decode cX3_street 59 = .ok (.invokevirtual 66, 3) := by decide +kernel
theorem dX3_street_62 : decode cX3_street 62 = .ok (.ireturn, 1) := by decide +kernel
theorem dX3_street_63 : decode cX3_street 63 = .ok (.iconst 3, 1) := by decide +kernel
theorem dX3_street_64 : decode cX3_street 64 = .ok (.newarray .int, 2) := by decide +kernel
theorem dX3_street_66 : decode cX3_street 66 = .ok (.dup, 1) := by decide +kernel
theorem dX3_street_67 : decode cX3_street 67 = .ok (.iconst 0, 1) := by decide +kernel
theorem dX3_street_68 : decode cX3_street 68 = .ok (.iload_n 1, 1) := by decide +kernel
theorem dX3_street_69 : decode cX3_street 69 = .ok (.iastore, 1) := by decide +kernel
theorem dX3_street_70 : decode cX3_street 70 = .ok (.dup, 1) := by decide +kernel
theorem dX3_street_71 : decode cX3_street 71 = .ok (.iconst 1, 1) := by decide +kernel
theorem dX3_street_72 : decode cX3_street 72 = .ok (.iload_n 2, 1) := by decide +kernel
theorem dX3_street_73 : decode cX3_street 73 = .ok (.iastore, 1) := by decide +kernel
theorem dX3_street_74 : decode cX3_street 74 = .ok (.dup, 1) := by decide +kernel
theorem dX3_street_75 : decode cX3_street 75 = .ok (.iconst 2, 1) := by decide +kernel
theorem dX3_street_76 : decode cX3_street 76 = .ok (.iload_n 3, 1) := by decide +kernel
theorem dX3_street_77 : decode cX3_street 77 = .ok (.iastore, 1) := by decide +kernel
theorem dX3_street_78 : decode cX3_street 78 = .ok (.astore 4, 2) := by decide +kernel
theorem dX3_street_80 : decode cX3_street 80 = .ok (.aload 4, 2) := by decide +kernel
theorem dX3_street_82 : decode cX3_street 82 = .ok (.iconst 0, 1) := by decide +kernel
theorem dX3_street_83 : decode cX3_street 83 = .ok (.aload_n 0, 1) := by decide +kernel
theorem dX3_street_84 : decode cX3_street 84 = .ok (.getfield 13, 3) := by decide +kernel
theorem dX3_street_87 : decode cX3_street 87 = .ok (.iconst 3, 1) := by decide +kernel
theorem dX3_street_88 : decode cX3_street 88 = .ok (.aload_n 0, 1) := by decide +kernel
theorem dX3_street_89 : decode cX3_street 89 = .ok (.getfield 45, 3) := by decide +kernel
theorem dX3_street_92 : decode cX3_street 92 = .ok (.imul, 1) := by decide +kernel
theorem dX3_street_93 : decode cX3_street 93 = .ok (.iconst 3, 1) := by decide +kernel
theorem dX3_street_94 : decode cX3_street 94 = .ok (.invokestatic 77, 3) := by decide +kernel
theorem dX3_street_97 : decode cX3_street 97 = .ok (.aload_n 0, 1) := by decide +kernel
theorem dX3_street_98 : decode cX3_street 98 = .ok (.dup, 1) := by decide +kernel
theorem dX3_street_99 : decode cX3_street 99 = .ok (.getfield 45, 3) := by decide +kernel
theorem dX3_street_102 : decode cX3_street 102 = .ok (.iconst 1, 1) := by decide +kernel
theorem dX3_street_103 : decode cX3_street 103 = .ok (.iadd, 1) := by decide +kernel
theorem dX3_street_104 : decode cX3_street 104 = .ok (.putfield 45, 3) := by decide +kernel
theorem dX3_street_107 : decode cX3_street 107 = .ok (.aload_n 0, 1) := by decide +kernel
theorem dX3_street_108 : decode cX3_street 108 = .ok (.invokevirtual 70, 3) := by decide +kernel
theorem dX3_street_111 : decode cX3_street 111 = .ok (.aload_n 0, 1) := by decide +kernel
theorem dX3_street_112 : decode cX3_street 112 = .ok (.getfield 45, 3) := by decide +kernel
theorem dX3_street_115 : decode cX3_street 115 = .ok (.iconst 1, 1) := by decide +kernel
theorem dX3_street_116 : decode cX3_street 116 = .ok (.isub, 1) := by decide +kernel
theorem dX3_street_117 : decode cX3_street 117 = .ok (.ireturn, 1) := by decide +kernel
set_option maxRecDepth 20000 in
theorem ggX3_lamp_X3_isStreet : GoodIn wsX3_lamp wsX3_isStreet := goodIn_r _ [13, 14, 15, 16, 12, 17, 22, 23, 24, 25, 26, 27, 28, 29, 30, 31, 32, 33, 34] (by decide +kernel) (by decide +kernel)
set_option maxRecDepth 20000 in
theorem gX3_lamp_X3_isStreet : GoodIn wsX3_lamp (wsV RX3 83 RX3 yX3_isStreet wsX3_isStreet) := goodIn_app (goodIn_of _ (by decide +kernel)) ggX3_lamp_X3_isStreet
set_option maxRecDepth 20000 in
theorem ggX3_lamp_X3_fail : GoodIn wsX3_lamp wsX3_fail := goodIn_r _ [21, 1, 22, 23, 24, 25, 26, 27, 28, 29, 30, 31, 32, 33, 34] (by decide +kernel) (by decide +kernel)
set_option maxRecDepth 20000 in
theorem gX3_lamp_X3_fail : GoodIn wsX3_lamp (wsV RX3 66 RX3 yX3_fail wsX3_fail) := goodIn_app (goodIn_of _ (by decide +kernel)) ggX3_lamp_X3_fail
set_option maxRecDepth 20000 in
theorem ggX3_lamp_X3_isIn : GoodIn wsX3_lamp wsX3_isIn := goodIn_r _ [17] (by decide +kernel) (by decide +kernel)
set_option maxRecDepth 20000 in
theorem gX3_lamp_X3_isIn : GoodIn wsX3_lamp (va_wsS RX3 41 yX3_isIn wsX3_isIn) := goodIn_app (goodIn_of _ (by decide +kernel)) ggX3_lamp_X3_isIn
theorem dX3_lamp_0 : decode cX3_lamp 0 = .ok (.aload_n 0, 1) := by decide +kernel
theorem dX3_lamp_1 : decode cX3_lamp 1 = .ok (.iconst 0, 1) := by decide +kernel
theorem dX3_lamp_2 : decode cX3_lamp 2 = .ok (.putfield 34, 3) := by decide +kernel
theorem dX3_lamp_5 : decode cX3_lamp 5 = .ok (.aload_n 0, 1) := by decide +kernel
theorem dX3_lamp_6 : decode cX3_lamp 6 = .ok (.iload_n 1, 1) := by decide +kernel
theorem dX3_lamp_7 : decode cX3_lamp 7 = .ok (.invokevirtual 83, 3) := by decide +kernel
theorem dX3_lamp_10 : decode cX3_lamp 10 = .ok (.ifCond .ne 9, 3) := by decide +kernel
theorem dX3_lamp_13 : decode cX3_lamp 13 = .ok (.aload_n 0, 1) := by decide +kernel
theorem dX3_lamp_14 : decode cX3_lamp 14 = .ok (.iconst 1, 1) := by decide +kernel
theorem dX3_lamp_15 : decode cX3_lamp 15 = .ok (.invokevirtual 66, 3) := by decide +kernel
theorem dX3_lamp_18 : decode cX3_lamp 18 = .ok (.ireturn, 1) := by decide +kernel
theorem dX3_lamp_19 : decode cX3_lamp 19 = .ok (.iload_n 2, 1) := by decide +kernel
theorem dX3_lamp_20 : decode cX3_lamp 20 = .ok (.iconst 2, 1) := by decide +kernel
theorem dX3_lamp_21 : decode cX3_lamp 21 = .ok (.bipush 9, 2) := by decide +kernel
theorem dX3_lamp_23 : decode cX3_lamp 23 = .ok (.invokestatic 41, 3) := by decide +kernel
theorem dX3_lamp_26 : decode cX3_lamp 26 = .ok (.ifCond .ne 9, 3) := by decide +kernel
theorem dX3_lamp_29 : decode cX3_lamp 29 = .ok (.aload_n 0, 1) := by decide +kernel
theorem dX3_lamp_30 : decode cX3_lamp 30 = .ok (.iconst 2, 1) := by decide +kernel
theorem dX3_lamp_31 : decode cX3_lamp 31 = .ok (.invokevirtual 66, 3) := by decide +kernel
theorem dX3_lamp_34 : decode cX3_lamp 34 = .ok (.ireturn, 1) := by decide +kernel
theorem dX3_lamp_35 : decode cX3_lamp 35 = .ok (.aload_n 0, 1) := by decide +kernel
theorem dX3_lamp_36 : decode cX3_lamp 36 = .ok (.getfield 48, 3) := by decide +kernel
theorem dX3_lamp_39 : decode cX3_lamp 39 = .ok (.bipush 20, 2) := by decide +kernel
theorem dX3_lamp_41 : decode cX3_lamp 41 = .ok (.if_icmp .ne 9, 3) := by decide +kernel
theorem dX3_lamp_44 : decode cX3_lamp 44 = .ok (.aload_n 0, 1) := by decide +kernel
theorem dX3_lamp_45 : decode cX3_lamp 45 = .ok (.iconst 3, 1) := by decide +kernel
theorem dX3_lamp_46 : decode cX3_lamp 46 = .ok (.invokevirtual 66, 3) := by decide +kernel
theorem dX3_lamp_49 : decode cX3_lamp 49 = .ok (.ireturn, 1) := by decide +kernel
theorem dX3_lamp_50 : decode cX3_lamp 50 = .ok (.bipush 8, 2) := by decide +kernel
theorem dX3_lamp_52 : decode cX3_lamp 52 = .ok (.newarray .int, 2) := by decide +kernel
theorem dX3_lamp_54 : decode cX3_lamp 54 = .ok (.dup, 1) := by decide +kernel
theorem dX3_lamp_55 : decode cX3_lamp 55 = .ok (.iconst 0, 1) := by decide +kernel
theorem dX3_lamp_56 : decode cX3_lamp 56 = .ok (.iload_n 1, 1) := by decide +kernel
theorem dX3_lamp_57 : decode cX3_lamp 57 = .ok (.iastore, 1) := by decide +kernel
theorem dX3_lamp_58 : decode cX3_lamp 58 = .ok (.dup, 1) := by decide +kernel
theorem dX3_lamp_59 : decode cX3_lamp 59 = .ok (.iconst 1, 1) := by decide +kernel
theorem dX3_lamp_60 : decode cX3_lamp 60 = .ok (.iload_n 2, 1) := by decide +kernel
theorem dX3_lamp_61 : decode cX3_lamp 61 = .ok (.iastore, 1) := by decide +kernel
theorem dX3_lamp_62 : decode cX3_lamp 62 = .ok (.dup, 1) := by decide +kernel
theorem dX3_lamp_63 : decode cX3_lamp 63 = .ok (.iconst 2, 1) := by decide +kernel
theorem dX3_lamp_64 : decode cX3_lamp 64 = .ok (.iconst 0, 1) := by decide +kernel
theorem dX3_lamp_65 : decode cX3_lamp 65 = .ok (.iastore, 1) := by decide +kernel
theorem dX3_lamp_66 : decode cX3_lamp 66 = .ok (.dup, 1) := by decide +kernel
theorem dX3_lamp_67 : decode cX3_lamp 67 = .ok (.iconst 3, 1) := by decide +kernel
theorem dX3_lamp_68 : decode cX3_lamp 68 = .ok (.iconst 0, 1) := by decide +kernel
theorem dX3_lamp_69 : decode cX3_lamp 69 = .ok (.iastore, 1) := by decide +kernel
theorem dX3_lamp_70 : decode cX3_lamp 70 = .ok (.dup, 1) := by decide +kernel
theorem dX3_lamp_71 : decode cX3_lamp 71 = .ok (.iconst 4, 1) := by decide +kernel
theorem dX3_lamp_72 : decode cX3_lamp 72 = .ok (.iconst 0, 1) := by decide +kernel
theorem dX3_lamp_73 : decode cX3_lamp 73 = .ok (.iastore, 1) := by decide +kernel
theorem dX3_lamp_74 : decode cX3_lamp 74 = .ok (.dup, 1) := by decide +kernel
theorem dX3_lamp_75 : decode cX3_lamp 75 = .ok (.iconst 5, 1) := by decide +kernel
theorem dX3_lamp_76 : decode cX3_lamp 76 = .ok (.iconst 0, 1) := by decide +kernel
theorem dX3_lamp_77 : decode cX3_lamp 77 = .ok (.iastore, 1) := by decide +kernel
theorem dX3_lamp_78 : decode cX3_lamp 78 = .ok (.dup, 1) := by decide +kernel
theorem dX3_lamp_79 : decode cX3_lamp 79 = .ok (.bipush 6, 2) := by decide +kernel
theorem dX3_lamp_81 : decode cX3_lamp 81 = .ok (.iconst 0, 1) := by decide +kernel
theorem dX3_lamp_82 : decode cX3_lamp 82 = .ok (.iastore, 1) := by decide +kernel
theorem dX3_lamp_83 : decode cX3_lamp 83 = .ok (.dup, 1) := by decide +kernel
theorem dX3_lamp_84 : decode cX3_lamp 84 = .ok (.bipush 7, 2) := by decide +kernel
theorem dX3_lamp_86 : decode cX3_lamp 86 = .ok (.iconst 0, 1) := by decide +kernel
theorem dX3_lamp_87 : decode cX3_lamp 87 = .ok (.iastore, 1) := by decide +kernel
theorem dX3_lamp_88 : decode cX3_lamp 88 = .ok (.astore_n 3, 1) := by decide +kernel
theorem dX3_lamp_89 : decode cX3_lamp 89 = .ok (.aload_n 3, 1) := by decide +kernel
theorem dX3_lamp_90 : decode cX3_lamp 90 = .ok (.iconst 0, 1) := by decide +kernel
theorem dX3_lamp_91 : decode cX3_lamp 91 = .ok (.aload_n 0, 1) := by decide +kernel
theorem dX3_lamp_92 : decode cX3_lamp 92 = .ok (.getfield 19, 3) := by decide +kernel
theorem dX3_lamp_95 : decode cX3_lamp 95 = .ok (.bipush 8, 2) := by decide +kernel
theorem dX3_lamp_97 : decode cX3_lamp 97 = .ok (.aload_n 0, 1) := by decide +kernel
theorem dX3_lamp_98 : decode cX3_lamp 98 = .ok (.getfield 48, 3) := by decide +kernel
theorem dX3_lamp_101 : decode cX3_lamp 101 = .ok (.imul, 1) := by decide +kernel
theorem dX3_lamp_102 : decode cX3_lamp 102 = .ok (.bipush 8, 2) := by decide +kernel
theorem dX3_lamp_104 : decode cX3_lamp 104 = .ok (.invokestatic 77, 3) := by decide +kernel
theorem dX3_lamp_107 : decode cX3_lamp 107 = .ok (.aload_n 0, 1) := by decide +kernel
theorem dX3_lamp_108 : decode cX3_lamp 108 = .ok (.dup, 1) := by decide +kernel
theorem dX3_lamp_109 : decode cX3_lamp 109 = .ok (.getfield 48, 3) := by decide +kernel
theorem dX3_lamp_112 : decode cX3_lamp 112 = .ok (.iconst 1, 1) := by decide +kernel
theorem dX3_lamp_113 : decode cX3_lamp 113 = .ok (.iadd, 1) := by decide +kernel
theorem dX3_lamp_114 : decode cX3_lamp 114 = .ok (.putfield 48, 3) := by decide +kernel
theorem dX3_lamp_117 : decode cX3_lamp 117 = .ok (.aload_n 0, 1) := by decide +kernel
theorem dX3_lamp_118 : decode cX3_lamp 118 = .ok (.getfield 48, 3) := by decide +kernel
theorem dX3_lamp_121 : decode cX3_lamp 121 = .ok (.iconst 1, 1) := by decide +kernel
theorem dX3_lamp_122 : decode cX3_lamp 122 = .ok (.isub, 1) := by decide +kernel
theorem dX3_lamp_123 : decode cX3_lamp 123 = .ok (.ireturn, 1) := by decide +kernel
set_option maxRecDepth 20000 in
theorem ggX3_lid_X3_isLamp : GoodIn wsX3_lid wsX3_isLamp := goodIn_r _ [6, 7, 8, 9, 5, 10, 24, 25, 26, 27, 28, 29, 30, 31, 32, 33, 34, 35, 36] (by decide +kernel) (by decide +kernel)
set_option maxRecDepth 20000 in
theorem gX3_lid_X3_isLamp : GoodIn wsX3_lid (wsV RX3 86 RX3 yX3_isLamp wsX3_isLamp) := goodIn_app (goodIn_of _ (by decide +kernel)) ggX3_lid_X3_isLamp
set_option maxRecDepth 20000 in
theorem ggX3_lid_X3_fail : GoodIn wsX3_lid wsX3_fail := goodIn_r _ [14, 1, 24, 25, 26, 27, 28, 29, 30, 31, 32, 33, 34, 35, 36] (by decide +kernel) (by decide +kernel)
set_option maxRecDepth 20000 in
theorem gX3_lid_X3_fail : GoodIn wsX3_lid (wsV RX3 66 RX3 yX3_fail wsX3_fail) := goodIn_app (goodIn_of _ (by decide +kernel)) ggX3_lid_X3_fail
set_option maxRecDepth 20000 in
theorem ggX3_lid_X3_isIn : GoodIn wsX3_lid wsX3_isIn := goodIn_r _ [10] (by decide +kernel) (by decide +kernel)
set_option maxRecDepth 20000 in
theorem gX3_lid_X3_isIn : GoodIn wsX3_lid (va_wsS RX3 41 yX3_isIn wsX3_isIn) := goodIn_app (goodIn_of _ (by decide +kernel)) ggX3_lid_X3_isIn
set_option maxRecDepth 20000 in
theorem ggX3_lid_X3_la : GoodIn wsX3_lid wsX3_la := goodIn_r _ [18, 19, 24, 25, 26, 27, 28, 29, 30, 31, 32, 33, 34, 35, 36] (by decide +kernel) (by decide +kernel)
set_option maxRecDepth 20000 in
theorem gX3_lid_X3_la : GoodIn wsX3_lid (wsV RX3 89 RX3 yX3_la wsX3_la) := goodIn_app (goodIn_of _ (by decide +kernel)) ggX3_lid_X3_la
set_option maxRecDepth 20000 in
theorem ggX3_lid_X3_setLamp : GoodIn wsX3_lid wsX3_setLamp := goodIn_r _ [23, 19, 24, 25, 26, 27, 28, 29, 30, 31, 32, 33, 34, 35, 36] (by decide +kernel) (by decide +kernel)
set_option maxRecDepth 20000 in
theorem gX3_lid_X3_setLamp : GoodIn wsX3_lid (wsV RX3 92 RX3 yX3_setLamp wsX3_setLamp) := goodIn_app (goodIn_of _ (by decide +kernel)) ggX3_lid_X3_setLamp
theorem dX3_lid_0 : decode cX3_lid 0 = .ok (.aload_n 0, 1) := by decide +kernel
theorem dX3_lid_1 : decode cX3_lid 1 = .ok (.iconst 0, 1) := by decide +kernel
theorem dX3_lid_2 : decode cX3_lid 2 = .ok (.putfield 34, 3) := by decide +kernel
theorem dX3_lid_5 : decode cX3_lid 5 = .ok (.aload_n 0, 1) := by decide +kernel
theorem dX3_lid_6 : decode cX3_lid 6 = .ok (.iload_n 1, 1) := by decide +kernel
theorem dX3_lid_7 : decode cX3_lid 7 = .ok (.invokevirtual 86, 3) := by decide +kernel
theorem dX3_lid_10 : decode cX3_lid 10 = .ok (.ifCond .ne 9, 3) := by decide +kernel
theorem dX3_lid_13 : decode cX3_lid 13 = .ok (.aload_n 0, 1) := by decide +kernel
theorem dX3_lid_14 : decode cX3_lid 14 = .ok (.iconst 1, 1) := by decide +kernel
theorem dX3_lid_15 : decode cX3_lid 15 = .ok (.invokevirtual 66, 3) := by decide +kernel
theorem dX3_lid_18 : decode cX3_lid 18 = .ok (.ireturn, 1) := by decide +kernel
theorem dX3_lid_19 : decode cX3_lid 19 = .ok (.iload_n 2, 1) := by decide +kernel
theorem dX3_lid_20 : decode cX3_lid 20 = .ok (.iconst 0, 1) := by decide +kernel
theorem dX3_lid_21 : decode cX3_lid 21 = .ok (.bipush 9, 2) := by decide +kernel
theorem dX3_lid_23 : decode cX3_lid 23 = .ok (.invokestatic 41, 3) := by decide +kernel
theorem dX3_lid_26 : decode cX3_lid 26 = .ok (.ifCond .ne 9, 3) := by decide +kernel
theorem dX3_lid_29 : decode cX3_lid 29 = .ok (.aload_n 0, 1) := by decide +kernel
theorem dX3_lid_30 : decode cX3_lid 30 = .ok (.iconst 2, 1) := by decide +kernel
theorem dX3_lid_31 : decode cX3_lid 31 = .ok (.invokevirtual 66, 3) := by decide +kernel
theorem dX3_lid_34 : decode cX3_lid 34 = .ok (.ireturn, 1) := by decide +kernel
theorem dX3_lid_35 : decode cX3_lid 35 = .ok (.aload_n 0, 1) := by decide +kernel
theorem dX3_lid_36 : decode cX3_lid 36 = .ok (.iload_n 1, 1) := by decide +kernel
theorem dX3_lid_37 : decode cX3_lid 37 = .ok (.iconst 2, 1) := by decide +kernel
theorem dX3_lid_38 : decode cX3_lid 38 = .ok (.invokevirtual 89, 3) := by decide +kernel
theorem dX3_lid_41 : decode cX3_lid 41 = .ok (.istore_n 3, 1) := by decide +kernel
theorem dX3_lid_42 : decode cX3_lid 42 = .ok (.aload_n 0, 1) := by decide +kernel
theorem dX3_lid_43 : decode cX3_lid 43 = .ok (.iload_n 1, 1) := by decide +kernel
theorem dX3_lid_44 : decode cX3_lid 44 = .ok (.iconst 2, 1) := by decide +kernel
theorem dX3_lid_45 : decode cX3_lid 45 = .ok (.iload_n 2, 1) := by decide +kernel
theorem dX3_lid_46 : decode cX3_lid 46 = .ok (.invokevirtual 92, 3) := by decide +kernel
theorem dX3_lid_49 : decode cX3_lid 49 = .ok (.iload_n 3, 1) := by decide +kernel
theorem dX3_lid_50 : decode cX3_lid 50 = .ok (.ireturn, 1) := by decide +kernel
set_option maxRecDepth 20000 in
theorem ggX3_setWind_X3_isIn : GoodIn wsX3_setWind wsX3_isIn := goodIn_r _ [6] (by decide +kernel) (by decide +kernel)
set_option maxRecDepth 20000 in
theorem gX3_setWind_X3_isIn : GoodIn wsX3_setWind (va_wsS RX3 41 yX3_isIn wsX3_isIn) := goodIn_app (goodIn_of _ (by decide +kernel)) ggX3_setWind_X3_isIn
set_option maxRecDepth 20000 in
theorem ggX3_setWind_X3_fail : GoodIn wsX3_setWind wsX3_fail := goodIn_r _ [10, 1, 11, 12, 13, 14, 15, 16, 17, 18, 19, 20, 21, 22, 23] (by decide +kernel) (by decide +kernel)
set_option maxRecDepth 20000 in
theorem gX3_setWind_X3_fail : GoodIn wsX3_setWind (wsV RX3 66 RX3 yX3_fail wsX3_fail) := goodIn_app (goodIn_of _ (by decide +kernel)) ggX3_setWind_X3_fail
theorem dX3_setWind_0 : decode cX3_setWind 0 = .ok (.aload_n 0, 1) := by decide +kernel
theorem dX3_setWind_1 : decode cX3_setWind 1 = .ok (.iconst 0, 1) := by decide +kernel
theorem dX3_setWind_2 : decode cX3_setWind 2 = .ok (.putfield 34, 3) := by decide +kernel
theorem dX3_setWind_5 : decode cX3_setWind 5 = .ok (.iload_n 1, 1) := by decide +kernel
theorem dX3_setWind_6 : decode cX3_setWind 6 = .ok (.iconst 0, 1) := by decide +kernel
theorem dX3_setWind_7 : decode cX3_setWind 7 = .ok (.bipush 9, 2) := by decide +kernel
theorem dX3_setWind_9 : decode cX3_setWind 9 = .ok (.invokestatic 41, 3) := by decide +kernel
theorem dX3_setWind_12 : decode cX3_setWind 12 = .ok (.ifCond .ne 9, 3) := by decide +kernel
theorem dX3_setWind_15 : decode cX3_setWind 15 = .ok (.aload_n 0, 1) := by decide +kernel
theorem dX3_setWind_16 : decode cX3_setWind 16 = .ok (.iconst 1, 1) := by decide +kernel
theorem dX3_setWind_17 : decode cX3_setWind 17 = .ok (.invokevirtual 66, 3) := by decide +kernel
theorem dX3_setWind_20 : decode cX3_setWind 20 = .ok (.ireturn, 1) := by decide +kernel
theorem dX3_setWind_21 : decode cX3_setWind 21 = .ok (.iload_n 2, 1) := by decide +kernel
theorem dX3_setWind_22 : decode cX3_setWind 22 = .ok (.iconst 0, 1) := by decide +kernel
theorem dX3_setWind_23 : decode cX3_setWind 23 = .ok (.bipush 9, 2) := by decide +kernel
theorem dX3_setWind_25 : decode cX3_setWind 25 = .ok (.invokestatic 41, 3) := by decide +kernel
theorem dX3_setWind_28 : decode cX3_setWind 28 = .ok (.ifCond .ne 9, 3) := by decide +kernel
theorem dX3_setWind_31 : decode cX3_setWind 31 = .ok (.aload_n 0, 1) := by decide +kernel
theorem dX3_setWind_32 : decode cX3_setWind 32 = .ok (.iconst 2, 1) := by decide +kernel
theorem dX3_setWind_33 : decode cX3_setWind 33 = .ok (.invokevirtual 66, 3) := by decide +kernel
theorem dX3_setWind_36 : decode cX3_setWind 36 = .ok (.ireturn, 1) := by decide +kernel
theorem dX3_setWind_37 : decode cX3_setWind 37 = .ok (.aload_n 0, 1) := by decide +kernel
theorem dX3_setWind_38 : decode cX3_setWind 38 = .ok (.getfield 28, 3) := by decide +kernel
theorem dX3_setWind_41 : decode cX3_setWind 41 = .ok (.iload_n 1, 1) := by decide +kernel
theorem dX3_setWind_42 : decode cX3_setWind 42 = .ok (.iaload, 1) := by decide +kernel
theorem dX3_setWind_43 : decode cX3_setWind 43 = .ok (.istore_n 3, 1) := by decide +kernel
theorem dX3_setWind_44 : decode cX3_setWind 44 = .ok (.aload_n 0, 1) := by decide +kernel
theorem dX3_setWind_45 : decode cX3_setWind 45 = .ok (.getfield 28, 3) := by decide +kernel
theorem dX3_setWind_48 : decode cX3_setWind 48 = .ok (.iload_n 1, 1) := by decide +kernel
theorem dX3_setWind_49 : decode cX3_setWind 49 = .ok (.iload_n 2, 1) := by decide +kernel
theorem dX3_setWind_50 : decode cX3_setWind 50 = .ok (.iastore, 1) := by decide +kernel
theorem dX3_setWind_51 : decode cX3_setWind 51 = .ok (.iload_n 3, 1) := by decide +kernel
theorem dX3_setWind_52 : decode cX3_setWind 52 = .ok (.ireturn, 1) := by decide +kernel
set_option maxRecDepth 20000 in
theorem ggX3_hire_X3_isCorner : GoodIn wsX3_hire wsX3_isCorner := goodIn_r _ [13, 14, 15, 16, 12, 17, 22, 23, 24, 25, 26, 27, 28, 29, 30, 31, 32, 33, 34] (by decide +kernel) (by decide +kernel)
set_option maxRecDepth 20000 in
theorem gX3_hire_X3_isCorner : GoodIn wsX3_hire (wsV RX3 73 RX3 yX3_isCorner wsX3_isCorner) := goodIn_app (goodIn_of _ (by decide +kernel)) ggX3_hire_X3_isCorner
set_option maxRecDepth 20000 in
theorem ggX3_hire_X3_fail : GoodIn wsX3_hire wsX3_fail := goodIn_r _ [21, 1, 22, 23, 24, 25, 26, 27, 28, 29, 30, 31, 32, 33, 34] (by decide +kernel) (by decide +kernel)
set_option maxRecDepth 20000 in
theorem gX3_hire_X3_fail : GoodIn wsX3_hire (wsV RX3 66 RX3 yX3_fail wsX3_fail) := goodIn_app (goodIn_of _ (by decide +kernel)) ggX3_hire_X3_fail
set_option maxRecDepth 20000 in
theorem ggX3_hire_X3_isIn : GoodIn wsX3_hire wsX3_isIn := goodIn_r _ [17] (by decide +kernel) (by decide +kernel)
set_option maxRecDepth 20000 in
theorem gX3_hire_X3_isIn : GoodIn wsX3_hire (va_wsS RX3 41 yX3_isIn wsX3_isIn) := goodIn_app (goodIn_of _ (by decide +kernel)) ggX3_hire_X3_isIn
theorem dX3_hire_0 : decode cX3_hire 0 = .ok (.aload_n 0, 1) := by decide +kernel
theorem dX3_hire_1 : decode cX3_hire 1 = .ok (.iconst 0, 1) := by decide +kernel
theorem dX3_hire_2 : decode cX3_hire 2 = .ok (.putfield 34, 3) := by decide +kernel
theorem dX3_hire_5 : decode cX3_hire 5 = .ok (.aload_n 0, 1) := by decide +kernel
theorem dX3_hire_6 : decode cX3_hire 6 = .ok (.iload_n 1, 1) := by decide +kernel
theorem dX3_hire_7 : decode cX3_hire 7 = .ok (.invokevirtual 73, 3) := by decide +kernel
theorem dX3_hire_10 : decode cX3_hire 10 = .ok (.ifCond .ne 9, 3) := by decide +kernel
theorem dX3_hire_13 : decode cX3_hire 13 = .ok (.aload_n 0, 1) := by decide +kernel
theorem dX3_hire_14 : decode cX3_hire 14 = .ok (.iconst 1, 1) := by decide +kernel
theorem dX3_hire_15 : decode cX3_hire 15 = .ok (.invokevirtual 66, 3) := by decide +kernel
theorem dX3_hire_18 : decode cX3_hire 18 = .ok (.ireturn, 1) := by decide +kernel
theorem dX3_hire_19 : decode cX3_hire 19 = .ok (.iload_n 2, 1) := by decide +kernel
theorem dX3_hire_20 : decode cX3_hire 20 = .ok (.iconst 1, 1) := by decide +kernel
theorem dX3_hire_21 : decode cX3_hire 21 = .ok (.bipush 9, 2) := by decide +kernel
theorem dX3_hire_23 : decode cX3_hire 23 = .ok (.invokestatic 41, 3) := by decide +kernel
theorem dX3_hire_26 : decode cX3_hire 26 = .ok (.ifCond .eq 14, 3) := by decide +kernel
theorem dX3_hire_29 : decode cX3_hire 29 = .ok (.iload_n 3, 1) := by decide +kernel
theorem dX3_hire_30 : decode cX3_hire 30 = .ok (.iconst 0, 1) := by decide +kernel
theorem dX3_hire_31 : decode cX3_hire 31 = .ok (.sipush 999, 3) := by decide +kernel
theorem dX3_hire_34 : decode cX3_hire 34 = .ok (.invokestatic 41, 3) := by decide +kernel
theorem dX3_hire_37 : decode cX3_hire 37 = .ok (.ifCond .ne 9, 3) := by decide +kernel
theorem dX3_hire_40 : decode cX3_hire 40 = .ok (.aload_n 0, 1) := by decide +kernel
theorem dX3_hire_41 : decode cX3_hire 41 = .ok (.iconst 2, 1) := by decide +kernel
theorem dX3_hire_42 : decode cX3_hire 42 = .ok (.invokevirtual 66, 3) := by decide +kernel
theorem dX3_hire_45 : decode cX3_hire 45 = .ok (.ireturn, 1) := by decide +kernel
theorem dX3_hire_46 : decode cX3_hire 46 = .ok (.aload_n 0, 1) := by decide +kernel
theorem dX3_hire_47 : decode cX3_hire 47 = .ok (.getfield 51, 3) := by decide +kernel
theorem dX3_hire_50 : decode cX3_hire 50 = .ok (.iconst 4, 1) := by decide +kernel
theorem dX3_hire_51 : decode cX3_hire 51 = .ok (.if_icmp .ne 9, 3) := by decide +kernel
theorem dX3_hire_54 : decode cX3_hire 54 = .ok (.aload_n 0, 1) := by decide +kernel
theorem dX3_hire_55 : decode cX3_hire 55 = .ok (.iconst 3, 1) := by decide +kernel
theorem dX3_hire_56 : decode cX3_hire 56 = .ok (.invokevirtual 66, 3) := by decide +kernel
theorem dX3_hire_59 : decode cX3_hire 59 = .ok (.ireturn, 1) := by decide +kernel
theorem dX3_hire_60 : decode cX3_hire 60 = .ok (.bipush 10, 2) := by decide +kernel
theorem dX3_hire_62 : decode cX3_hire 62 = .ok (.newarray .int, 2) := by decide +kernel
theorem dX3_hire_64 : decode cX3_hire 64 = .ok (.dup, 1) := by decide +kernel
theorem dX3_hire_65 : decode cX3_hire 65 = .ok (.iconst 0, 1) := by decide +kernel
theorem dX3_hire_66 : decode cX3_hire 66 = .ok (.iload_n 1, 1) := by decide +kernel
theorem dX3_hire_67 : decode cX3_hire 67 = .ok (.iastore, 1) := by decide +kernel
theorem dX3_hire_68 : decode cX3_hire 68 = .ok (.dup, 1) := by decide +kernel
theorem dX3_hire_69 : decode cX3_hire 69 = .ok (.iconst 1, 1) := by decide +kernel
theorem dX3_hire_70 : decode cX3_hire 70 = .ok (.iload_n 1, 1) := by decide +kernel
theorem dX3_hire_71 : decode cX3_hire 71 = .ok (.iastore, 1) := by decide +kernel
theorem dX3_hire_72 : decode cX3_hire 72 = .ok (.dup, 1) := by decide +kernel
theorem dX3_hire_73 : decode cX3_hire 73 = .ok (.iconst 2, 1) := by decide +kernel
theorem dX3_hire_74 : decode cX3_hire 74 = .ok (.iload_n 2, 1) := by decide +kernel
theorem dX3_hire_75 : decode cX3_hire 75 = .ok (.iastore, 1) := by decide +kernel
theorem dX3_hire_76 : decode cX3_hire 76 = .ok (.dup, 1) := by decide +kernel
theorem dX3_hire_77 : decode cX3_hire 77 = .ok (.iconst 3, 1) := by decide +kernel
theorem dX3_hire_78 : decode cX3_hire 78 = .ok (.iload_n 3, 1) := by decide +kernel
theorem dX3_hire_79 : decode cX3_hire 79 = .ok (.iastore, 1) := by decide +kernel
theorem dX3_hire_80 : decode cX3_hire 80 = .ok (.dup, 1) := by decide +kernel
theorem dX3_hire_81 : decode cX3_hire 81 = .ok (.iconst 4, 1) := by decide +kernel
theorem dX3_hire_82 : decode cX3_hire 82 = .ok (.iconst 0, 1) := by decide +kernel
theorem dX3_hire_83 : decode cX3_hire 83 = .ok (.iastore, 1) := by decide +kernel
theorem dX3_hire_84 : decode cX3_hire 84 = .ok (.dup, 1) := by decide +kernel
theorem dX3_hire_85 : decode cX3_hire 85 = .ok (.iconst 5, 1) := by decide +kernel
theorem dX3_hire_86 : decode cX3_hire 86 = .ok (.iconst (-1), 1) := by decide +kernel
theorem dX3_hire_87 : decode cX3_hire 87 = .ok (.iastore, 1) := by decide +kernel
theorem dX3_hire_88 : decode cX3_hire 88 = .ok (.dup, 1) := by decide +kernel
theorem dX3_hire_89 : decode cX3_hire 89 = .ok (.bipush 6, 2) := by decide +kernel
theorem dX3_hire_91 : decode cX3_hire 91 = .ok (.iconst 0, 1) := by decide +kernel
theorem dX3_hire_92 : decode cX3_hire 92 = .ok (.iastore, 1) := by decide +kernel
theorem dX3_hire_93 : decode cX3_hire 93 = .ok (.dup, 1) := by decide +kernel
theorem dX3_hire_94 : decode cX3_hire 94 = .ok (.bipush 7, 2) := by decide +kernel
theorem dX3_hire_96 : decode cX3_hire 96 = .ok (.iconst (-1), 1) := by decide +kernel
theorem dX3_hire_97 : decode cX3_hire 97 = .ok (.iastore, 1) := by decide +kernel
theorem dX3_hire_98 : decode cX3_hire 98 = .ok (.dup, 1) := by decide +kernel
theorem dX3_hire_99 : decode cX3_hire 99 = .ok (.bipush 8, 2) := by decide +kernel
theorem dX3_hire_101 : decode cX3_hire 101 = .ok (.iconst (-1), 1) := by decide +kernel
theorem dX3_hire_102 : decode cX3_hire 102 = .ok (.iastore, 1) := by decide +kernel
theorem dX3_hire_103 : decode cX3_hire 103 = .ok (.dup, 1) := by decide +kernel
theorem dX3_hire_104 : decode cX3_hire 104 = .ok (.bipush 9, 2) := by decide +kernel
theorem dX3_hire_106 : decode cX3_hire 106 = .ok (.iconst 0, 1) := by decide +kernel
theorem dX3_hire_107 : decode cX3_hire 107 = .ok (.iastore, 1) := by decide +kernel
theorem dX3_hire_108 : decode cX3_hire 108 = .ok (.astore 4, 2) := by decide +kernel
theorem dX3_hire_110 : decode cX3_hire 110 = .ok (.aload 4, 2) := by decide +kernel
theorem dX3_hire_112 : decode cX3_hire 112 = .ok (.iconst 0, 1) := by decide +kernel
theorem dX3_hire_113 : decode cX3_hire 113 = .ok (.aload_n 0, 1) := by decide +kernel
theorem dX3_hire_114 : decode cX3_hire 114 = .ok (.getfield 22, 3) := by decide +kernel
theorem dX3_hire_117 : decode cX3_hire 117 = .ok (.bipush 10, 2) := by decide +kernel
theorem dX3_hire_119 : decode cX3_hire 119 = .ok (.aload_n 0, 1) := by decide +kernel
theorem dX3_hire_120 : decode cX3_hire 120 = .ok (.getfield 51, 3) := by decide +kernel
theorem dX3_hire_123 : decode cX3_hire 123 = .ok (.imul, 1) := by decide +kernel
theorem dX3_hire_124 : decode cX3_hire 124 = .ok (.bipush 10, 2) := by decide +kernel
theorem dX3_hire_126 : decode cX3_hire 126 = .ok (.invokestatic 77, 3) := by decide +kernel
theorem dX3_hire_129 : decode cX3_hire 129 = .ok (.aload_n 0, 1) := by decide +kernel
theorem dX3_hire_130 : decode cX3_hire 130 = .ok (.dup, 1) := by decide +kernel
theorem dX3_hire_131 : decode cX3_hire 131 = .ok (.getfield 51, 3) := by decide +kernel
theorem dX3_hire_134 : decode cX3_hire 134 = .ok (.iconst 1, 1) := by decide +kernel
theorem dX3_hire_135 : decode cX3_hire 135 = .ok (.iadd, 1) := by decide +kernel
theorem dX3_hire_136 : decode cX3_hire 136 = .ok (.putfield 51, 3) := by decide +kernel
theorem dX3_hire_139 : decode cX3_hire 139 = .ok (.aload_n 0, 1) := by decide +kernel
theorem dX3_hire_140 : decode cX3_hire 140 = .ok (.getfield 51, 3) := by decide +kernel
theorem dX3_hire_143 : decode cX3_hire 143 = .ok (.iconst 1, 1) := by decide +kernel
theorem dX3_hire_144 : decode cX3_hire 144 = .ok (.isub, 1) := by decide +kernel
theorem dX3_hire_145 : decode cX3_hire 145 = .ok (.ireturn, 1) := by decide +kernel
set_option maxRecDepth 20000 in
theorem ggX3_round_X3_isLighter : GoodIn wsX3_round wsX3_isLighter := goodIn_r _ [7, 8, 9, 10, 6, 11, 30, 31, 32, 33, 34, 35, 36, 37, 38, 39, 40, 41, 42] (by decide +kernel) (by decide +kernel)
set_option maxRecDepth 20000 in
theorem gX3_round_X3_isLighter : GoodIn wsX3_round (wsV RX3 96 RX3 yX3_isLighter wsX3_isLighter) := goodIn_app (goodIn_of _ (by decide +kernel)) ggX3_round_X3_isLighter
set_option maxRecDepth 20000 in
theorem ggX3_round_X3_isLamp : GoodIn wsX3_round wsX3_isLamp := goodIn_r _ [15, 16, 9, 10, 6, 11, 30, 31, 32, 33, 34, 35, 36, 37, 38, 39, 40, 41, 42] (by decide +kernel) (by decide +kernel)
set_option maxRecDepth 20000 in
theorem gX3_round_X3_isLamp : GoodIn wsX3_round (wsV RX3 86 RX3 yX3_isLamp wsX3_isLamp) := goodIn_app (goodIn_of _ (by decide +kernel)) ggX3_round_X3_isLamp
set_option maxRecDepth 20000 in
theorem ggX3_round_X3_fail : GoodIn wsX3_round wsX3_fail := goodIn_r _ [20, 1, 30, 31, 32, 33, 34, 35, 36, 37, 38, 39, 40, 41, 42] (by decide +kernel) (by decide +kernel)
set_option maxRecDepth 20000 in
theorem gX3_round_X3_fail : GoodIn wsX3_round (wsV RX3 66 RX3 yX3_fail wsX3_fail) := goodIn_app (goodIn_of _ (by decide +kernel)) ggX3_round_X3_fail
set_option maxRecDepth 20000 in
theorem ggX3_round_X3_pe : GoodIn wsX3_round wsX3_pe := goodIn_r _ [24, 25, 30, 31, 32, 33, 34, 35, 36, 37, 38, 39, 40, 41, 42] (by decide +kernel) (by decide +kernel)
set_option maxRecDepth 20000 in
theorem gX3_round_X3_pe : GoodIn wsX3_round (wsV RX3 99 RX3 yX3_pe wsX3_pe) := goodIn_app (goodIn_of _ (by decide +kernel)) ggX3_round_X3_pe
set_option maxRecDepth 20000 in
theorem ggX3_round_X3_put : GoodIn wsX3_round wsX3_put := goodIn_r _ [29, 25, 30, 31, 32, 33, 34, 35, 36, 37, 38, 39, 40, 41, 42] (by decide +kernel) (by decide +kernel)
set_option maxRecDepth 20000 in
theorem gX3_round_X3_put : GoodIn wsX3_round (wsV RX3 102 RX3 yX3_put wsX3_put) := goodIn_app (goodIn_of _ (by decide +kernel)) ggX3_round_X3_put
theorem dX3_round_0 : decode cX3_round 0 = .ok (.aload_n 0, 1) := by decide +kernel
theorem dX3_round_1 : decode cX3_round 1 = .ok (.iconst 0, 1) := by decide +kernel
theorem dX3_round_2 : decode cX3_round 2 = .ok (.putfield 34, 3) := by decide +kernel
theorem dX3_round_5 : decode cX3_round 5 = .ok (.aload_n 0, 1) := by decide +kernel
theorem dX3_round_6 : decode cX3_round 6 = .ok (.iload_n 1, 1) := by decide +kernel
theorem dX3_round_7 : decode cX3_round 7 = .ok (.invokevirtual 96, 3) := by decide +kernel
theorem dX3_round_10 : decode cX3_round 10 = .ok (.ifCond .eq 11, 3) := by decide +kernel
theorem dX3_round_13 : decode cX3_round 13 = .ok (.aload_n 0, 1) := by decide +kernel
theorem dX3_round_14 : decode cX3_round 14 = .ok (.iload_n 2, 1) := by decide +kernel
theorem dX3_round_15 : decode cX3_round 15 = .ok (.invokevirtual 86, 3) := by decide +kernel
theorem dX3_round_18 : decode cX3_round 18 = .ok (.ifCond .ne 9, 3) := by decide +kernel
theorem dX3_round_21 : decode cX3_round 21 = .ok (.aload_n 0, 1) := by decide +kernel
theorem dX3_round_22 : decode cX3_round 22 = .ok (.iconst 1, 1) := by decide +kernel
theorem dX3_round_23 : decode cX3_round 23 = .ok (.invokevirtual 66, 3) := by decide +kernel
theorem dX3_round_26 : decode cX3_round 26 = .ok (.ireturn, 1) := by decide +kernel
theorem dX3_round_27 : decode cX3_round 27 = .ok (.aload_n 0, 1) := by decide +kernel
theorem dX3_round_28 : decode cX3_round 28 = .ok (.iload_n 1, 1) := by decide +kernel
theorem dX3_round_29 : decode cX3_round 29 = .ok (.iconst 4, 1) := by decide +kernel
theorem dX3_round_30 : decode cX3_round 30 = .ok (.invokevirtual 99, 3) := by decide +kernel
theorem dX3_round_33 : decode cX3_round 33 = .ok (.istore_n 3, 1) := by decide +kernel
theorem dX3_round_34 : decode cX3_round 34 = .ok (.iconst 0, 1) := by decide +kernel
theorem dX3_round_35 : decode cX3_round 35 = .ok (.istore 4, 2) := by decide +kernel
theorem dX3_round_37 : decode cX3_round 37 = .ok (.iconst 0, 1) := by decide +kernel
theorem dX3_round_38 : decode cX3_round 38 = .ok (.istore 5, 2) := by decide +kernel
theorem dX3_round_40 : decode cX3_round 40 = .ok (.iload 5, 2) := by decide +kernel
theorem dX3_round_42 : decode cX3_round 42 = .ok (.iload_n 3, 1) := by decide +kernel
theorem dX3_round_43 : decode cX3_round 43 = .ok (.if_icmp .ge 35, 3) := by decide +kernel
theorem dX3_round_46 : decode cX3_round 46 = .ok (.iload 4, 2) := by decide +kernel
theorem dX3_round_48 : decode cX3_round 48 = .ok (.aload_n 0, 1) := by decide +kernel
theorem dX3_round_49 : decode cX3_round 49 = .ok (.getfield 25, 3) := by decide +kernel
theorem dX3_round_52 : decode cX3_round 52 = .ok (.bipush 10, 2) := by decide +kernel
theorem dX3_round_54 : decode cX3_round 54 = .ok (.iload_n 1, 1) := by decide +kernel
theorem dX3_round_55 : decode cX3_round 55 = .ok (.imul, 1) := by decide +kernel
theorem dX3_round_56 : decode cX3_round 56 = .ok (.iload 5, 2) := by decide +kernel
theorem dX3_round_58 : decode cX3_round 58 = .ok (.iadd, 1) := by decide +kernel
theorem dX3_round_59 : decode cX3_round 59 = .ok (.iaload, 1) := by decide +kernel
theorem dX3_round_60 : decode cX3_round 60 = .ok (.iload_n 2, 1) := by decide +kernel
theorem dX3_round_61 : decode cX3_round 61 = .ok (.if_icmp .ne 7, 3) := by decide +kernel
theorem dX3_round_64 : decode cX3_round 64 = .ok (.iconst 1, 1) := by decide +kernel
theorem dX3_round_65 : decode cX3_round 65 = .ok (.goto 4, 3) := by decide +kernel
theorem dX3_round_68 : decode cX3_round 68 = .ok (.iconst 0, 1) := by decide +kernel
theorem dX3_round_69 : decode cX3_round 69 = .ok (.ior, 1) := by decide +kernel
theorem dX3_round_70 : decode cX3_round 70 = .ok (.istore 4, 2) := by decide +kernel
theorem dX3_round_72 : decode cX3_round 72 = .ok (.iinc 5 1, 3) := by decide +kernel
theorem dX3_round_75 : decode cX3_round 75 = .ok (.goto (-35), 3) := by decide +kernel
theorem dX3_round_78 : decode cX3_round 78 = .ok (.iload 4, 2) := by decide +kernel
theorem dX3_round_80 : decode cX3_round 80 = .ok (.ifCond .ne 9, 3) := by decide +kernel
theorem dX3_round_83 : decode cX3_round 83 = .ok (.iload_n 3, 1) := by decide +kernel
theorem dX3_round_84 : decode cX3_round 84 = .ok (.bipush 10, 2) := by decide +kernel
theorem dX3_round_86 : decode cX3_round 86 = .ok (.if_icmp .ne 9, 3) := by decide +kernel
theorem dX3_round_89 : decode cX3_round 89 = .ok (.aload_n 0, 1) := by decide +kernel
theorem dX3_round_90 : decode cX3_round 90 = .ok (.iconst 2, 1) := by decide +kernel
theorem dX3_round_91 : decode cX3_round 91 = .ok (.invokevirtual 66, 3) := by decide +kernel
theorem dX3_round_94 : decode cX3_round 94 = .ok (.ireturn, 1) := by decide +kernel
theorem dX3_round_95 : decode cX3_round 95 = .ok (.aload_n 0, 1) := by decide +kernel
theorem dX3_round_96 : decode cX3_round 96 = .ok (.getfield 25, 3) := by decide +kernel
theorem dX3_round_99 : decode cX3_round 99 = .ok (.bipush 10, 2) := by decide +kernel
theorem dX3_round_101 : decode cX3_round 101 = .ok (.iload_n 1, 1) := by decide +kernel
theorem dX3_round_102 : decode cX3_round 102 = .ok (.imul, 1) := by decide +kernel
theorem dX3_round_103 : decode cX3_round 103 = .ok (.iload_n 3, 1) := by decide +kernel
theorem dX3_round_104 : decode cX3_round 104 = .ok (.iadd, 1) := by decide +kernel
theorem dX3_round_105 : decode cX3_round 105 = .ok (.iload_n 2, 1) := by decide +kernel
theorem dX3_round_106 : decode cX3_round 106 = .ok (.iastore, 1) := by decide +kernel
theorem dX3_round_107 : decode cX3_round 107 = .ok (.aload_n 0, 1) := by decide +kernel
theorem dX3_round_108 : decode cX3_round 108 = .ok (.iload_n 1, 1) := by decide +kernel
theorem dX3_round_109 : decode cX3_round 109 = .ok (.iconst 4, 1) := by decide +kernel
theorem dX3_round_110 : decode cX3_round 110 = .ok (.iload_n 3, 1) := by decide +kernel
theorem dX3_round_111 : decode cX3_round 111 = .ok (.iconst 1, 1) := by decide +kernel
theorem dX3_round_112 : decode cX3_round 112 = .ok (.iadd, 1) := by decide +kernel
theorem dX3_round_113 : decode cX3_round 113 = .ok (.invokevirtual 102, 3) := by decide +kernel
theorem dX3_round_116 : decode cX3_round 116 = .ok (.iload_n 3, 1) := by decide +kernel
theorem dX3_round_117 : decode cX3_round 117 = .ok (.iconst 1, 1) := by decide +kernel
theorem dX3_round_118 : decode cX3_round 118 = .ok (.iadd, 1) := by decide +kernel
theorem dX3_round_119 : decode cX3_round 119 = .ok (.ireturn, 1) := by decide +kernel
set_option maxRecDepth 20000 in
theorem ggX3_fill_X3_isLighter : GoodIn wsX3_fill wsX3_isLighter := goodIn_r _ [10, 11, 12, 13, 9, 14, 28, 29, 30, 31, 32, 33, 34, 35, 36, 37, 38, 39, 40] (by decide +kernel) (by decide +kernel)
set_option maxRecDepth 20000 in
theorem gX3_fill_X3_isLighter : GoodIn wsX3_fill (wsV RX3 96 RX3 yX3_isLighter wsX3_isLighter) := goodIn_app (goodIn_of _ (by decide +kernel)) ggX3_fill_X3_isLighter
set_option maxRecDepth 20000 in
theorem ggX3_fill_X3_fail : GoodIn wsX3_fill wsX3_fail := goodIn_r _ [18, 1, 28, 29, 30, 31, 32, 33, 34, 35, 36, 37, 38, 39, 40] (by decide +kernel) (by decide +kernel)
set_option maxRecDepth 20000 in
theorem gX3_fill_X3_fail : GoodIn wsX3_fill (wsV RX3 66 RX3 yX3_fail wsX3_fail) := goodIn_app (goodIn_of _ (by decide +kernel)) ggX3_fill_X3_fail
set_option maxRecDepth 20000 in
theorem ggX3_fill_X3_isIn : GoodIn wsX3_fill wsX3_isIn := goodIn_r _ [14] (by decide +kernel) (by decide +kernel)
set_option maxRecDepth 20000 in
theorem gX3_fill_X3_isIn : GoodIn wsX3_fill (va_wsS RX3 41 yX3_isIn wsX3_isIn) := goodIn_app (goodIn_of _ (by decide +kernel)) ggX3_fill_X3_isIn
set_option maxRecDepth 20000 in
theorem ggX3_fill_X3_pe : GoodIn wsX3_fill wsX3_pe := goodIn_r _ [22, 23, 28, 29, 30, 31, 32, 33, 34, 35, 36, 37, 38, 39, 40] (by decide +kernel) (by decide +kernel)
set_option maxRecDepth 20000 in
theorem gX3_fill_X3_pe : GoodIn wsX3_fill (wsV RX3 99 RX3 yX3_pe wsX3_pe) := goodIn_app (goodIn_of _ (by decide +kernel)) ggX3_fill_X3_pe
set_option maxRecDepth 20000 in
theorem ggX3_fill_X3_put : GoodIn wsX3_fill wsX3_put := goodIn_r _ [27, 23, 28, 29, 30, 31, 32, 33, 34, 35, 36, 37, 38, 39, 40] (by decide +kernel) (by decide +kernel)
set_option maxRecDepth 20000 in
theorem gX3_fill_X3_put : GoodIn wsX3_fill (wsV RX3 102 RX3 yX3_put wsX3_put) := goodIn_app (goodIn_of _ (by decide +kernel)) ggX3_fill_X3_put
theorem dX3_fill_0 : decode cX3_fill 0 = .ok (.aload_n 0, 1) := by decide +kernel
theorem dX3_fill_1 : decode cX3_fill 1 = .ok (.iconst 0, 1) := by decide +kernel
theorem dX3_fill_2 : decode cX3_fill 2 = .ok (.putfield 34, 3) := by decide +kernel
theorem dX3_fill_5 : decode cX3_fill 5 = .ok (.aload_n 0, 1) := by decide +kernel
theorem dX3_fill_6 : decode cX3_fill 6 = .ok (.iload_n 1, 1) := by decide +kernel
theorem dX3_fill_7 : decode cX3_fill 7 = .ok (.invokevirtual 96, 3) := by decide +kernel
theorem dX3_fill_10 : decode cX3_fill 10 = .ok (.ifCond .ne 9, 3) := by decide +kernel
theorem dX3_fill_13 : decode cX3_fill 13 = .ok (.aload_n 0, 1) := by decide +kernel
theorem dX3_fill_14 : decode cX3_fill 14 = .ok (.iconst 1, 1) := by decide +kernel
theorem dX3_fill_15 : decode cX3_fill 15 = .ok (.invokevirtual 66, 3) := by decide +kernel
theorem dX3_fill_18 : decode cX3_fill 18 = .ok (.ireturn, 1) := by decide +kernel
theorem dX3_fill_19 : decode cX3_fill 19 = .ok (.iload_n 2, 1) := by decide +kernel
theorem dX3_fill_20 : decode cX3_fill 20 = .ok (.iconst 1, 1) := by decide +kernel
theorem dX3_fill_21 : decode cX3_fill 21 = .ok (.sipush 999, 3) := by decide +kernel
theorem dX3_fill_24 : decode cX3_fill 24 = .ok (.invokestatic 41, 3) := by decide +kernel
theorem dX3_fill_27 : decode cX3_fill 27 = .ok (.ifCond .ne 9, 3) := by decide +kernel
theorem dX3_fill_30 : decode cX3_fill 30 = .ok (.aload_n 0, 1) := by decide +kernel
theorem dX3_fill_31 : decode cX3_fill 31 = .ok (.iconst 2, 1) := by decide +kernel
theorem dX3_fill_32 : decode cX3_fill 32 = .ok (.invokevirtual 66, 3) := by decide +kernel
theorem dX3_fill_35 : decode cX3_fill 35 = .ok (.ireturn, 1) := by decide +kernel
theorem dX3_fill_36 : decode cX3_fill 36 = .ok (.aload_n 0, 1) := by decide +kernel
theorem dX3_fill_37 : decode cX3_fill 37 = .ok (.iload_n 1, 1) := by decide +kernel
theorem dX3_fill_38 : decode cX3_fill 38 = .ok (.iconst 3, 1) := by decide +kernel
theorem dX3_fill_39 : decode cX3_fill 39 = .ok (.sipush 999, 3) := by decide +kernel
theorem dX3_fill_42 : decode cX3_fill 42 = .ok (.aload_n 0, 1) := by decide +kernel
theorem dX3_fill_43 : decode cX3_fill 43 = .ok (.iload_n 1, 1) := by decide +kernel
theorem dX3_fill_44 : decode cX3_fill 44 = .ok (.iconst 3, 1) := by decide +kernel
theorem dX3_fill_45 : decode cX3_fill 45 = .ok (.invokevirtual 99, 3) := by decide +kernel
theorem dX3_fill_48 : decode cX3_fill 48 = .ok (.iload_n 2, 1) := by decide +kernel
theorem dX3_fill_49 : decode cX3_fill 49 = .ok (.iadd, 1) := by decide +kernel
theorem dX3_fill_50 : decode cX3_fill 50 = .ok (.invokestatic 63, 3) := by decide +kernel
theorem dX3_fill_53 : decode cX3_fill 53 = .ok (.invokevirtual 102, 3) := by decide +kernel
theorem dX3_fill_56 : decode cX3_fill 56 = .ok (.aload_n 0, 1) := by decide +kernel
theorem dX3_fill_57 : decode cX3_fill 57 = .ok (.iload_n 1, 1) := by decide +kernel
theorem dX3_fill_58 : decode cX3_fill 58 = .ok (.iconst 3, 1) := by decide +kernel
theorem dX3_fill_59 : decode cX3_fill 59 = .ok (.invokevirtual 99, 3) := by decide +kernel
theorem dX3_fill_62 : decode cX3_fill 62 = .ok (.ireturn, 1) := by decide +kernel
theorem dX3_away_0 : decode cX3_away 0 = .ok (.sipush 9999, 3) := by decide +kernel
theorem dX3_away_3 : decode cX3_away 3 = .ok (.aload_n 0, 1) := by decide +kernel
theorem dX3_away_4 : decode cX3_away 4 = .ok (.getfield 16, 3) := by decide +kernel
theorem dX3_away_7 : decode cX3_away 7 = .ok (.bipush 12, 2) := by decide +kernel
theorem dX3_away_9 : decode cX3_away 9 = .ok (.iload_n 1, 1) := by decide +kernel
theorem dX3_away_10 : decode cX3_away 10 = .ok (.imul, 1) := by decide +kernel
theorem dX3_away_11 : decode cX3_away 11 = .ok (.iload_n 2, 1) := by decide +kernel
theorem dX3_away_12 : decode cX3_away 12 = .ok (.iadd, 1) := by decide +kernel
theorem dX3_away_13 : decode cX3_away 13 = .ok (.iaload, 1) := by decide +kernel
theorem dX3_away_14 : decode cX3_away 14 = .ok (.invokestatic 63, 3) := by decide +kernel
theorem dX3_away_17 : decode cX3_away 17 = .ok (.ireturn, 1) := by decide +kernel
set_option maxRecDepth 20000 in
theorem ggX3_way_X3_isCorner : GoodIn wsX3_way wsX3_isCorner := goodIn_r _ [6, 7, 8, 9, 5, 10, 24, 25, 26, 27, 28, 29, 30, 31, 32, 33, 34, 35, 36] (by decide +kernel) (by decide +kernel)
set_option maxRecDepth 20000 in
theorem gX3_way_X3_isCorner : GoodIn wsX3_way (wsV RX3 73 RX3 yX3_isCorner wsX3_isCorner) := goodIn_app (goodIn_of _ (by decide +kernel)) ggX3_way_X3_isCorner
set_option maxRecDepth 20000 in
theorem ggX3_way_X3_fail : GoodIn wsX3_way wsX3_fail := goodIn_r _ [14, 1, 24, 25, 26, 27, 28, 29, 30, 31, 32, 33, 34, 35, 36] (by decide +kernel) (by decide +kernel)
set_option maxRecDepth 20000 in
theorem gX3_way_X3_fail : GoodIn wsX3_way (wsV RX3 66 RX3 yX3_fail wsX3_fail) := goodIn_app (goodIn_of _ (by decide +kernel)) ggX3_way_X3_fail
set_option maxRecDepth 20000 in
theorem ggX3_way_X3_away : GoodIn wsX3_way wsX3_away := goodIn_r _ [18, 19, 20, 21, 22, 23, 24, 25, 26, 27, 28, 29, 30, 31, 32, 33, 34, 35, 36] (by decide +kernel) (by decide +kernel)
set_option maxRecDepth 20000 in
theorem gX3_way_X3_away : GoodIn wsX3_way (wsV RX3 105 RX3 yX3_away wsX3_away) := goodIn_app (goodIn_of _ (by decide +kernel)) ggX3_way_X3_away
theorem dX3_way_0 : decode cX3_way 0 = .ok (.aload_n 0, 1) := by decide +kernel
theorem dX3_way_1 : decode cX3_way 1 = .ok (.iconst 0, 1) := by decide +kernel
theorem dX3_way_2 : decode cX3_way 2 = .ok (.putfield 34, 3) := by decide +kernel
theorem dX3_way_5 : decode cX3_way 5 = .ok (.aload_n 0, 1) := by decide +kernel
theorem dX3_way_6 : decode cX3_way 6 = .ok (.iload_n 1, 1) := by decide +kernel
theorem dX3_way_7 : decode cX3_way 7 = .ok (.invokevirtual 73, 3) := by decide +kernel
theorem dX3_way_10 : decode cX3_way 10 = .ok (.ifCond .eq 11, 3) := by decide +kernel
theorem dX3_way_13 : decode cX3_way 13 = .ok (.aload_n 0, 1) := by decide +kernel
theorem dX3_way_14 : decode cX3_way 14 = .ok (.iload_n 2, 1) := by decide +kernel
theorem dX3_way_15 : decode cX3_way 15 = .ok (.invokevirtual 73, 3) := by decide +kernel
theorem dX3_way_18 : decode cX3_way 18 = .ok (.ifCond .ne 9, 3) := by decide +kernel
theorem dX3_way_21 : decode cX3_way 21 = .ok (.aload_n 0, 1) := by decide +kernel
theorem dX3_way_22 : decode cX3_way 22 = .ok (.iconst 1, 1) := by decide +kernel
theorem dX3_way_23 : decode cX3_way 23 = .ok (.invokevirtual 66, 3) := by decide +kernel
theorem dX3_way_26 : decode cX3_way 26 = .ok (.ireturn, 1) := by decide +kernel
theorem dX3_way_27 : decode cX3_way 27 = .ok (.aload_n 0, 1) := by decide +kernel
theorem dX3_way_28 : decode cX3_way 28 = .ok (.iload_n 1, 1) := by decide +kernel
theorem dX3_way_29 : decode cX3_way 29 = .ok (.iload_n 2, 1) := by decide +kernel
theorem dX3_way_30 : decode cX3_way 30 = .ok (.invokevirtual 105, 3) := by decide +kernel
theorem dX3_way_33 : decode cX3_way 33 = .ok (.sipush 9999, 3) := by decide +kernel
theorem dX3_way_36 : decode cX3_way 36 = .ok (.if_icmp .ne 7, 3) := by decide +kernel
theorem dX3_way_39 : decode cX3_way 39 = .ok (.iconst (-1), 1) := by decide +kernel
theorem dX3_way_40 : decode cX3_way 40 = .ok (.goto 9, 3) := by decide +kernel
theorem dX3_way_43 : decode cX3_way 43 = .ok (.aload_n 0, 1) := by decide +kernel
theorem dX3_way_44 : decode cX3_way 44 = .ok (.iload_n 1, 1) := by decide +kernel
theorem dX3_way_45 : decode cX3_way 45 = .ok (.iload_n 2, 1) := by decide +kernel
theorem dX3_way_46 : decode cX3_way 46 = .ok (.invokevirtual 105, 3) := by decide +kernel
theorem dX3_way_49 : decode cX3_way 49 = .ok (.ireturn, 1) := by decide +kernel
set_option maxRecDepth 20000 in
theorem ggX3_goer_X3_pe : GoodIn wsX3_goer wsX3_pe := goodIn_r _ [6, 7, 8, 9, 10, 11, 12, 13, 14, 15, 16, 17, 18, 19, 20] (by decide +kernel) (by decide +kernel)
set_option maxRecDepth 20000 in
theorem gX3_goer_X3_pe : GoodIn wsX3_goer (wsV RX3 99 RX3 yX3_pe wsX3_pe) := goodIn_app (goodIn_of _ (by decide +kernel)) ggX3_goer_X3_pe
theorem dX3_goer_0 : decode cX3_goer 0 = .ok (.iconst 0, 1) := by decide +kernel
theorem dX3_goer_1 : decode cX3_goer 1 = .ok (.istore_n 2, 1) := by decide +kernel
theorem dX3_goer_2 : decode cX3_goer 2 = .ok (.iload_n 2, 1) := by decide +kernel
theorem dX3_goer_3 : decode cX3_goer 3 = .ok (.aload_n 0, 1) := by decide +kernel
theorem dX3_goer_4 : decode cX3_goer 4 = .ok (.getfield 51, 3) := by decide +kernel
theorem dX3_goer_7 : decode cX3_goer 7 = .ok (.if_icmp .ge 21, 3) := by decide +kernel
theorem dX3_goer_10 : decode cX3_goer 10 = .ok (.aload_n 0, 1) := by decide +kernel
theorem dX3_goer_11 : decode cX3_goer 11 = .ok (.iload_n 2, 1) := by decide +kernel
theorem dX3_goer_12 : decode cX3_goer 12 = .ok (.iconst 5, 1) := by decide +kernel
theorem dX3_goer_13 : decode cX3_goer 13 = .ok (.invokevirtual 99, 3) := by decide +kernel
theorem dX3_goer_16 : decode cX3_goer 16 = .ok (.iload_n 1, 1) := by decide +kernel
theorem dX3_goer_17 : decode cX3_goer 17 = .ok (.if_icmp .ne 5, 3) := by decide +kernel
theorem dX3_goer_20 : decode cX3_goer 20 = .ok (.iload_n 2, 1) := by decide +kernel
theorem dX3_goer_21 : decode cX3_goer 21 = .ok (.ireturn, 1) := by decide +kernel
theorem dX3_goer_22 : decode cX3_goer 22 = .ok (.iinc 2 1, 3) := by decide +kernel
theorem dX3_goer_25 : decode cX3_goer 25 = .ok (.goto (-23), 3) := by decide +kernel
theorem dX3_goer_28 : decode cX3_goer 28 = .ok (.iconst (-1), 1) := by decide +kernel
theorem dX3_goer_29 : decode cX3_goer 29 = .ok (.ireturn, 1) := by decide +kernel
set_option maxRecDepth 20000 in
theorem ggX3_lampTold_X3_la : GoodIn wsX3_lampTold wsX3_la := goodIn_r _ [5, 6, 17, 18, 19, 20, 21, 22, 23, 24, 25, 26, 27, 28, 29] (by decide +kernel) (by decide +kernel)
set_option maxRecDepth 20000 in
theorem gX3_lampTold_X3_la : GoodIn wsX3_lampTold (wsV RX3 89 RX3 yX3_la wsX3_la) := goodIn_app (goodIn_of _ (by decide +kernel)) ggX3_lampTold_X3_la
set_option maxRecDepth 20000 in
theorem ggX3_lampTold_X3_goer : GoodIn wsX3_lampTold wsX3_goer := goodIn_r _ [10, 11, 12, 13, 14, 4, 15, 16, 17, 18, 19, 20, 21, 22, 23, 24, 25, 26, 27, 28, 29] (by decide +kernel) (by decide +kernel)
set_option maxRecDepth 20000 in
theorem gX3_lampTold_X3_goer : GoodIn wsX3_lampTold (wsV RX3 108 RX3 yX3_goer wsX3_goer) := goodIn_app (goodIn_of _ (by decide +kernel)) ggX3_lampTold_X3_goer
theorem dX3_lampTold_0 : decode cX3_lampTold 0 = .ok (.iload_n 2, 1) := by decide +kernel
theorem dX3_lampTold_1 : decode cX3_lampTold 1 = .ok (.bipush 6, 2) := by decide +kernel
theorem dX3_lampTold_3 : decode cX3_lampTold 3 = .ok (.if_icmp .ge 12, 3) := by decide +kernel
theorem dX3_lampTold_6 : decode cX3_lampTold 6 = .ok (.aload_n 0, 1) := by decide +kernel
theorem dX3_lampTold_7 : decode cX3_lampTold 7 = .ok (.iload_n 1, 1) := by decide +kernel
theorem dX3_lampTold_8 : decode cX3_lampTold 8 = .ok (.iload_n 2, 1) := by decide +kernel
theorem dX3_lampTold_9 : decode cX3_lampTold 9 = .ok (.invokevirtual 89, 3) := by decide +kernel
theorem dX3_lampTold_12 : decode cX3_lampTold 12 = .ok (.goto 25, 3) := by decide +kernel
theorem dX3_lampTold_15 : decode cX3_lampTold 15 = .ok (.iload_n 2, 1) := by decide +kernel
theorem dX3_lampTold_16 : decode cX3_lampTold 16 = .ok (.bipush 6, 2) := by decide +kernel
theorem dX3_lampTold_18 : decode cX3_lampTold 18 = .ok (.if_icmp .ne 11, 3) := by decide +kernel
theorem dX3_lampTold_21 : decode cX3_lampTold 21 = .ok (.aload_n 0, 1) := by decide +kernel
theorem dX3_lampTold_22 : decode cX3_lampTold 22 = .ok (.iload_n 1, 1) := by decide +kernel
theorem dX3_lampTold_23 : decode cX3_lampTold 23 = .ok (.invokevirtual 108, 3) := by decide +kernel
theorem dX3_lampTold_26 : decode cX3_lampTold 26 = .ok (.goto 11, 3) := by decide +kernel
theorem dX3_lampTold_29 : decode cX3_lampTold 29 = .ok (.aload_n 0, 1) := by decide +kernel
theorem dX3_lampTold_30 : decode cX3_lampTold 30 = .ok (.iload_n 1, 1) := by decide +kernel
theorem dX3_lampTold_31 : decode cX3_lampTold 31 = .ok (.iload_n 2, 1) := by decide +kernel
theorem dX3_lampTold_32 : decode cX3_lampTold 32 = .ok (.iconst 1, 1) := by decide +kernel
theorem dX3_lampTold_33 : decode cX3_lampTold 33 = .ok (.isub, 1) := by decide +kernel
theorem dX3_lampTold_34 : decode cX3_lampTold 34 = .ok (.invokevirtual 89, 3) := by decide +kernel
theorem dX3_lampTold_37 : decode cX3_lampTold 37 = .ok (.ireturn, 1) := by decide +kernel
set_option maxRecDepth 20000 in
theorem ggX3_told_X3_isLamp : GoodIn wsX3_told wsX3_isLamp := goodIn_r _ [6, 7, 8, 9, 5, 10, 34, 35, 36, 37, 38, 39, 40, 41, 42, 43, 44, 45, 46] (by decide +kernel) (by decide +kernel)
set_option maxRecDepth 20000 in
theorem gX3_told_X3_isLamp : GoodIn wsX3_told (wsV RX3 86 RX3 yX3_isLamp wsX3_isLamp) := goodIn_app (goodIn_of _ (by decide +kernel)) ggX3_told_X3_isLamp
set_option maxRecDepth 20000 in
theorem ggX3_told_X3_isIn : GoodIn wsX3_told wsX3_isIn := goodIn_r _ [10] (by decide +kernel) (by decide +kernel)
set_option maxRecDepth 20000 in
theorem gX3_told_X3_isIn : GoodIn wsX3_told (va_wsS RX3 41 yX3_isIn wsX3_isIn) := goodIn_app (goodIn_of _ (by decide +kernel)) ggX3_told_X3_isIn
set_option maxRecDepth 20000 in
theorem ggX3_told_X3_lampTold : GoodIn wsX3_told wsX3_lampTold := goodIn_r _ [14, 15, 16, 17, 5, 18, 19, 20, 21, 22, 23, 24, 25, 26, 27, 28, 29, 34, 35, 36, 37, 38, 39, 40, 41, 42, 43, 44, 45, 46] (by decide +kernel) (by decide +kernel)
set_option maxRecDepth 20000 in
theorem gX3_told_X3_lampTold : GoodIn wsX3_told (wsV RX3 111 RX3 yX3_lampTold wsX3_lampTold) := goodIn_app (goodIn_of _ (by decide +kernel)) ggX3_told_X3_lampTold
set_option maxRecDepth 20000 in
theorem ggX3_told_X3_fail : GoodIn wsX3_told wsX3_fail := goodIn_r _ [33, 1, 34, 35, 36, 37, 38, 39, 40, 41, 42, 43, 44, 45, 46] (by decide +kernel) (by decide +kernel)
set_option maxRecDepth 20000 in
theorem gX3_told_X3_fail : GoodIn wsX3_told (wsV RX3 66 RX3 yX3_fail wsX3_fail) := goodIn_app (goodIn_of _ (by decide +kernel)) ggX3_told_X3_fail
theorem dX3_told_0 : decode cX3_told 0 = .ok (.aload_n 0, 1) := by decide +kernel
theorem dX3_told_1 : decode cX3_told 1 = .ok (.iconst 0, 1) := by decide +kernel
theorem dX3_told_2 : decode cX3_told 2 = .ok (.putfield 34, 3) := by decide +kernel
theorem dX3_told_5 : decode cX3_told 5 = .ok (.aload_n 0, 1) := by decide +kernel
theorem dX3_told_6 : decode cX3_told 6 = .ok (.iload_n 1, 1) := by decide +kernel
theorem dX3_told_7 : decode cX3_told 7 = .ok (.invokevirtual 86, 3) := by decide +kernel
theorem dX3_told_10 : decode cX3_told 10 = .ok (.ifCond .eq 22, 3) := by decide +kernel
theorem dX3_told_13 : decode cX3_told 13 = .ok (.iload_n 2, 1) := by decide +kernel
theorem dX3_told_14 : decode cX3_told 14 = .ok (.iconst 0, 1) := by decide +kernel
theorem dX3_told_15 : decode cX3_told 15 = .ok (.bipush 8, 2) := by decide +kernel
theorem dX3_told_17 : decode cX3_told 17 = .ok (.invokestatic 41, 3) := by decide +kernel
theorem dX3_told_20 : decode cX3_told 20 = .ok (.ifCond .eq 12, 3) := by decide +kernel
theorem dX3_told_23 : decode cX3_told 23 = .ok (.aload_n 0, 1) := by decide +kernel
theorem dX3_told_24 : decode cX3_told 24 = .ok (.iload_n 1, 1) := by decide +kernel
theorem dX3_told_25 : decode cX3_told 25 = .ok (.iload_n 2, 1) := by decide +kernel
theorem dX3_told_26 : decode cX3_told 26 = .ok (.invokevirtual 111, 3) := by decide +kernel
theorem dX3_told_29 : decode cX3_told 29 = .ok (.goto 8, 3) := by decide +kernel
theorem dX3_told_32 : decode cX3_told 32 = .ok (.aload_n 0, 1) := by decide +kernel
theorem dX3_told_33 : decode cX3_told 33 = .ok (.iconst 1, 1) := by decide +kernel
theorem dX3_told_34 : decode cX3_told 34 = .ok (.invokevirtual 66, 3) := by decide +kernel
theorem dX3_told_37 : decode cX3_told 37 = .ok (.ireturn, 1) := by decide +kernel
set_option maxRecDepth 20000 in
theorem ggX3_lighterTold_X3_pe : GoodIn wsX3_lighterTold wsX3_pe := goodIn_r _ [6, 7, 8, 9, 10, 11, 12, 13, 14, 15, 16, 17, 18, 19, 20] (by decide +kernel) (by decide +kernel)
set_option maxRecDepth 20000 in
theorem gX3_lighterTold_X3_pe : GoodIn wsX3_lighterTold (wsV RX3 99 RX3 yX3_pe wsX3_pe) := goodIn_app (goodIn_of _ (by decide +kernel)) ggX3_lighterTold_X3_pe
theorem dX3_lighterTold_0 : decode cX3_lighterTold 0 = .ok (.bipush 7, 2) := by decide +kernel
theorem dX3_lighterTold_2 : decode cX3_lighterTold 2 = .ok (.newarray .int, 2) := by decide +kernel
theorem dX3_lighterTold_4 : decode cX3_lighterTold 4 = .ok (.dup, 1) := by decide +kernel
theorem dX3_lighterTold_5 : decode cX3_lighterTold 5 = .ok (.iconst 0, 1) := by decide +kernel
theorem dX3_lighterTold_6 : decode cX3_lighterTold 6 = .ok (.aload_n 0, 1) := by decide +kernel
theorem dX3_lighterTold_7 : decode cX3_lighterTold 7 = .ok (.iload_n 1, 1) := by decide +kernel
theorem dX3_lighterTold_8 : decode cX3_lighterTold 8 = .ok (.iconst 1, 1) := by decide +kernel
theorem dX3_lighterTold_9 : decode cX3_lighterTold 9 = .ok (.invokevirtual 99, 3) := by decide +kernel
theorem dX3_lighterTold_12 : decode cX3_lighterTold 12 = .ok (.iastore, 1) := by decide +kernel
theorem dX3_lighterTold_13 : decode cX3_lighterTold 13 = .ok (.dup, 1) := by decide +kernel
theorem dX3_lighterTold_14 : decode cX3_lighterTold 14 = .ok (.iconst 1, 1) := by decide +kernel
theorem dX3_lighterTold_15 : decode cX3_lighterTold 15 = .ok (.aload_n 0, 1) := by decide +kernel
theorem dX3_lighterTold_16 : decode cX3_lighterTold 16 = .ok (.iload_n 1, 1) := by decide +kernel
theorem dX3_lighterTold_17 : decode cX3_lighterTold 17 = .ok (.iconst 2, 1) := by decide +kernel
theorem dX3_lighterTold_18 : decode cX3_lighterTold 18 = .ok (.invokevirtual 99, 3) := by decide +kernel
theorem dX3_lighterTold_21 : decode cX3_lighterTold 21 = .ok (.iastore, 1) := by decide +kernel
theorem dX3_lighterTold_22 : decode cX3_lighterTold 22 = .ok (.dup, 1) := by decide +kernel
theorem dX3_lighterTold_23 : decode cX3_lighterTold 23 = .ok (.iconst 2, 1) := by decide +kernel
theorem dX3_lighterTold_24 : decode cX3_lighterTold 24 = .ok (.aload_n 0, 1) := by decide +kernel
theorem dX3_lighterTold_25 : decode cX3_lighterTold 25 = .ok (.iload_n 1, 1) := by decide +kernel
theorem dX3_lighterTold_26 : decode cX3_lighterTold 26 = .ok (.iconst 3, 1) := by decide +kernel
theorem dX3_lighterTold_27 : decode cX3_lighterTold 27 = .ok (.invokevirtual 99, 3) := by decide +kernel
theorem dX3_lighterTold_30 : decode cX3_lighterTold 30 = .ok (.iastore, 1) := by decide +kernel
theorem dX3_lighterTold_31 : decode cX3_lighterTold 31 = .ok (.dup, 1) := by decide +kernel
theorem dX3_lighterTold_32 : decode cX3_lighterTold 32 = .ok (.iconst 3, 1) := by decide +kernel
theorem dX3_lighterTold_33 : decode cX3_lighterTold 33 = .ok (.aload_n 0, 1) := by decide +kernel
theorem dX3_lighterTold_34 : decode cX3_lighterTold 34 = .ok (.iload_n 1, 1) := by decide +kernel
theorem dX3_lighterTold_35 : decode cX3_lighterTold 35 = .ok (.iconst 4, 1) := by decide +kernel
theorem dX3_lighterTold_36 : decode cX3_lighterTold 36 = .ok (.invokevirtual 99, 3) := by decide +kernel
theorem dX3_lighterTold_39 : decode cX3_lighterTold 39 = .ok (.iastore, 1) := by decide +kernel
theorem dX3_lighterTold_40 : decode cX3_lighterTold 40 = .ok (.dup, 1) := by decide +kernel
theorem dX3_lighterTold_41 : decode cX3_lighterTold 41 = .ok (.iconst 4, 1) := by decide +kernel
theorem dX3_lighterTold_42 : decode cX3_lighterTold 42 = .ok (.aload_n 0, 1) := by decide +kernel
theorem dX3_lighterTold_43 : decode cX3_lighterTold 43 = .ok (.iload_n 1, 1) := by decide +kernel
theorem dX3_lighterTold_44 : decode cX3_lighterTold 44 = .ok (.iconst 5, 1) := by decide +kernel
theorem dX3_lighterTold_45 : decode cX3_lighterTold 45 = .ok (.invokevirtual 99, 3) := by decide +kernel
theorem dX3_lighterTold_48 : decode cX3_lighterTold 48 = .ok (.iastore, 1) := by decide +kernel
theorem dX3_lighterTold_49 : decode cX3_lighterTold 49 = .ok (.dup, 1) := by decide +kernel
theorem dX3_lighterTold_50 : decode cX3_lighterTold 50 = .ok (.iconst 5, 1) := by decide +kernel
theorem dX3_lighterTold_51 : decode cX3_lighterTold 51 = .ok (.aload_n 0, 1) := by decide +kernel
theorem dX3_lighterTold_52 : decode cX3_lighterTold 52 = .ok (.iload_n 1, 1) := by decide +kernel
theorem dX3_lighterTold_53 : decode cX3_lighterTold 53 = .ok (.bipush 6, 2) := by decide +kernel
theorem dX3_lighterTold_55 : decode cX3_lighterTold 55 = .ok (.invokevirtual 99, 3) := by decide +kernel
theorem dX3_lighterTold_58 : decode cX3_lighterTold 58 = .ok (.iastore, 1) := by decide +kernel
theorem dX3_lighterTold_59 : decode cX3_lighterTold 59 = .ok (.dup, 1) := by decide +kernel
theorem dX3_lighterTold_60 : decode cX3_lighterTold 60 = .ok (.bipush 6, 2) := by decide +kernel
theorem dX3_lighterTold_62 : decode cX3_lighterTold 62 = .ok (.aload_n 0, 1) := by decide +kernel
theorem dX3_lighterTold_63 : decode cX3_lighterTold 63 = .ok (.iload_n 1, 1) := by decide +kernel
theorem dX3_lighterTold_64 : decode cX3_lighterTold 64 = .ok (.bipush 9, 2) := by decide +kernel
theorem dX3_lighterTold_66 : decode cX3_lighterTold 66 = .ok (.invokevirtual 99, 3) := by decide +kernel
theorem dX3_lighterTold_69 : decode cX3_lighterTold 69 = .ok (.iastore, 1) := by decide +kernel
theorem dX3_lighterTold_70 : decode cX3_lighterTold 70 = .ok (.astore_n 3, 1) := by decide +kernel
theorem dX3_lighterTold_71 : decode cX3_lighterTold 71 = .ok (.aload_n 3, 1) := by decide +kernel
theorem dX3_lighterTold_72 : decode cX3_lighterTold 72 = .ok (.iload_n 2, 1) := by decide +kernel
theorem dX3_lighterTold_73 : decode cX3_lighterTold 73 = .ok (.iaload, 1) := by decide +kernel
theorem dX3_lighterTold_74 : decode cX3_lighterTold 74 = .ok (.ireturn, 1) := by decide +kernel
set_option maxRecDepth 20000 in
theorem ggX3_lighter_X3_isLighter : GoodIn wsX3_lighter wsX3_isLighter := goodIn_r _ [6, 7, 8, 9, 5, 10, 25, 26, 27, 28, 29, 30, 31, 32, 33, 34, 35, 36, 37] (by decide +kernel) (by decide +kernel)
set_option maxRecDepth 20000 in
theorem gX3_lighter_X3_isLighter : GoodIn wsX3_lighter (wsV RX3 96 RX3 yX3_isLighter wsX3_isLighter) := goodIn_app (goodIn_of _ (by decide +kernel)) ggX3_lighter_X3_isLighter
set_option maxRecDepth 20000 in
theorem ggX3_lighter_X3_isIn : GoodIn wsX3_lighter wsX3_isIn := goodIn_r _ [10] (by decide +kernel) (by decide +kernel)
set_option maxRecDepth 20000 in
theorem gX3_lighter_X3_isIn : GoodIn wsX3_lighter (va_wsS RX3 41 yX3_isIn wsX3_isIn) := goodIn_app (goodIn_of _ (by decide +kernel)) ggX3_lighter_X3_isIn
set_option maxRecDepth 20000 in
theorem ggX3_lighter_X3_lighterTold : GoodIn wsX3_lighter wsX3_lighterTold := goodIn_r _ [14, 15, 16, 17, 18, 5, 19, 20, 25, 26, 27, 28, 29, 30, 31, 32, 33, 34, 35, 36, 37] (by decide +kernel) (by decide +kernel)
set_option maxRecDepth 20000 in
theorem gX3_lighter_X3_lighterTold : GoodIn wsX3_lighter (wsV RX3 114 RX3 yX3_lighterTold wsX3_lighterTold) := goodIn_app (goodIn_of _ (by decide +kernel)) ggX3_lighter_X3_lighterTold
set_option maxRecDepth 20000 in
theorem ggX3_lighter_X3_fail : GoodIn wsX3_lighter wsX3_fail := goodIn_r _ [24, 1, 25, 26, 27, 28, 29, 30, 31, 32, 33, 34, 35, 36, 37] (by decide +kernel) (by decide +kernel)
set_option maxRecDepth 20000 in
theorem gX3_lighter_X3_fail : GoodIn wsX3_lighter (wsV RX3 66 RX3 yX3_fail wsX3_fail) := goodIn_app (goodIn_of _ (by decide +kernel)) ggX3_lighter_X3_fail
theorem dX3_lighter_0 : decode cX3_lighter 0 = .ok (.aload_n 0, 1) := by decide +kernel
theorem dX3_lighter_1 : decode cX3_lighter 1 = .ok (.iconst 0, 1) := by decide +kernel
theorem dX3_lighter_2 : decode cX3_lighter 2 = .ok (.putfield 34, 3) := by decide +kernel
theorem dX3_lighter_5 : decode cX3_lighter 5 = .ok (.aload_n 0, 1) := by decide +kernel
theorem dX3_lighter_6 : decode cX3_lighter 6 = .ok (.iload_n 1, 1) := by decide +kernel
theorem dX3_lighter_7 : decode cX3_lighter 7 = .ok (.invokevirtual 96, 3) := by decide +kernel
theorem dX3_lighter_10 : decode cX3_lighter 10 = .ok (.ifCond .eq 22, 3) := by decide +kernel
theorem dX3_lighter_13 : decode cX3_lighter 13 = .ok (.iload_n 2, 1) := by decide +kernel
theorem dX3_lighter_14 : decode cX3_lighter 14 = .ok (.iconst 0, 1) := by decide +kernel
theorem dX3_lighter_15 : decode cX3_lighter 15 = .ok (.bipush 6, 2) := by decide +kernel
theorem dX3_lighter_17 : decode cX3_lighter 17 = .ok (.invokestatic 41, 3) := by decide +kernel
theorem dX3_lighter_20 : decode cX3_lighter 20 = .ok (.ifCond .eq 12, 3) := by decide +kernel
theorem dX3_lighter_23 : decode cX3_lighter 23 = .ok (.aload_n 0, 1) := by decide +kernel
theorem dX3_lighter_24 : decode cX3_lighter 24 = .ok (.iload_n 1, 1) := by decide +kernel
theorem dX3_lighter_25 : decode cX3_lighter 25 = .ok (.iload_n 2, 1) := by decide +kernel
theorem dX3_lighter_26 : decode cX3_lighter 26 = .ok (.invokevirtual 114, 3) := by decide +kernel
theorem dX3_lighter_29 : decode cX3_lighter 29 = .ok (.goto 8, 3) := by decide +kernel
theorem dX3_lighter_32 : decode cX3_lighter 32 = .ok (.aload_n 0, 1) := by decide +kernel
theorem dX3_lighter_33 : decode cX3_lighter 33 = .ok (.iconst 1, 1) := by decide +kernel
theorem dX3_lighter_34 : decode cX3_lighter 34 = .ok (.invokevirtual 66, 3) := by decide +kernel
theorem dX3_lighter_37 : decode cX3_lighter 37 = .ok (.ireturn, 1) := by decide +kernel
set_option maxRecDepth 20000 in
theorem ggX3_burns_X3_la : GoodIn wsX3_burns wsX3_la := goodIn_r _ [6, 7, 8, 9, 10, 11, 12, 13, 14, 15, 16, 17, 18, 19, 20] (by decide +kernel) (by decide +kernel)
set_option maxRecDepth 20000 in
theorem gX3_burns_X3_la : GoodIn wsX3_burns (wsV RX3 89 RX3 yX3_la wsX3_la) := goodIn_app (goodIn_of _ (by decide +kernel)) ggX3_burns_X3_la
theorem dX3_burns_0 : decode cX3_burns 0 = .ok (.iconst 0, 1) := by decide +kernel
theorem dX3_burns_1 : decode cX3_burns 1 = .ok (.istore_n 2, 1) := by decide +kernel
theorem dX3_burns_2 : decode cX3_burns 2 = .ok (.iconst 0, 1) := by decide +kernel
theorem dX3_burns_3 : decode cX3_burns 3 = .ok (.istore_n 3, 1) := by decide +kernel
theorem dX3_burns_4 : decode cX3_burns 4 = .ok (.iload_n 3, 1) := by decide +kernel
theorem dX3_burns_5 : decode cX3_burns 5 = .ok (.aload_n 0, 1) := by decide +kernel
theorem dX3_burns_6 : decode cX3_burns 6 = .ok (.getfield 48, 3) := by decide +kernel
theorem dX3_burns_9 : decode cX3_burns 9 = .ok (.if_icmp .ge 32, 3) := by decide +kernel
theorem dX3_burns_12 : decode cX3_burns 12 = .ok (.iload_n 2, 1) := by decide +kernel
theorem dX3_burns_13 : decode cX3_burns 13 = .ok (.aload_n 0, 1) := by decide +kernel
theorem dX3_burns_14 : decode cX3_burns 14 = .ok (.iload_n 3, 1) := by decide +kernel
theorem dX3_burns_15 : decode cX3_burns 15 = .ok (.iconst 0, 1) := by decide +kernel
theorem dX3_burns_16 : decode cX3_burns 16 = .ok (.invokevirtual 89, 3) := by decide +kernel
theorem dX3_burns_19 : decode cX3_burns 19 = .ok (.iload_n 1, 1) := by decide +kernel
theorem dX3_burns_20 : decode cX3_burns 20 = .ok (.if_icmp .ne 12, 3) := by decide +kernel
theorem dX3_burns_23 : decode cX3_burns 23 = .ok (.aload_n 0, 1) := by decide +kernel
theorem dX3_burns_24 : decode cX3_burns 24 = .ok (.iload_n 3, 1) := by decide +kernel
theorem dX3_burns_25 : decode cX3_burns 25 = .ok (.iconst 5, 1) := by decide +kernel
theorem dX3_burns_26 : decode cX3_burns 26 = .ok (.invokevirtual 89, 3) := by decide +kernel
theorem dX3_burns_29 : decode cX3_burns 29 = .ok (.goto 4, 3) := by decide +kernel
theorem dX3_burns_32 : decode cX3_burns 32 = .ok (.iconst 0, 1) := by decide +kernel
theorem dX3_burns_33 : decode cX3_burns 33 = .ok (.iadd, 1) := by decide +kernel
theorem dX3_burns_34 : decode cX3_burns 34 = .ok (.istore_n 2, 1) := by decide +kernel
theorem dX3_burns_35 : decode cX3_burns 35 = .ok (.iinc 3 1, 3) := by decide +kernel
theorem dX3_burns_38 : decode cX3_burns 38 = .ok (.goto (-34), 3) := by decide +kernel
theorem dX3_burns_41 : decode cX3_burns 41 = .ok (.iload_n 2, 1) := by decide +kernel
theorem dX3_burns_42 : decode cX3_burns 42 = .ok (.ireturn, 1) := by decide +kernel
set_option maxRecDepth 20000 in
theorem ggX3_burning_X3_isStreet : GoodIn wsX3_burning wsX3_isStreet := goodIn_r _ [6, 7, 8, 9, 5, 10, 25, 26, 27, 28, 29, 30, 31, 32, 33, 34, 35, 36, 37] (by decide +kernel) (by decide +kernel)
set_option maxRecDepth 20000 in
theorem gX3_burning_X3_isStreet : GoodIn wsX3_burning (wsV RX3 83 RX3 yX3_isStreet wsX3_isStreet) := goodIn_app (goodIn_of _ (by decide +kernel)) ggX3_burning_X3_isStreet
set_option maxRecDepth 20000 in
theorem ggX3_burning_X3_burns : GoodIn wsX3_burning wsX3_burns := goodIn_r _ [14, 15, 16, 17, 18, 5, 19, 20, 25, 26, 27, 28, 29, 30, 31, 32, 33, 34, 35, 36, 37] (by decide +kernel) (by decide +kernel)
set_option maxRecDepth 20000 in
theorem gX3_burning_X3_burns : GoodIn wsX3_burning (wsV RX3 117 RX3 yX3_burns wsX3_burns) := goodIn_app (goodIn_of _ (by decide +kernel)) ggX3_burning_X3_burns
set_option maxRecDepth 20000 in
theorem ggX3_burning_X3_fail : GoodIn wsX3_burning wsX3_fail := goodIn_r _ [24, 1, 25, 26, 27, 28, 29, 30, 31, 32, 33, 34, 35, 36, 37] (by decide +kernel) (by decide +kernel)
set_option maxRecDepth 20000 in
theorem gX3_burning_X3_fail : GoodIn wsX3_burning (wsV RX3 66 RX3 yX3_fail wsX3_fail) := goodIn_app (goodIn_of _ (by decide +kernel)) ggX3_burning_X3_fail
theorem dX3_burning_0 : decode cX3_burning 0 = .ok (.aload_n 0, 1) := by decide +kernel
theorem dX3_burning_1 : decode cX3_burning 1 = .ok (.iconst 0, 1) := by decide +kernel
theorem dX3_burning_2 : decode cX3_burning 2 = .ok (.putfield 34, 3) := by decide +kernel
theorem dX3_burning_5 : decode cX3_burning 5 = .ok (.aload_n 0, 1) := by decide +kernel
theorem dX3_burning_6 : decode cX3_burning 6 = .ok (.iload_n 1, 1) := by decide +kernel
theorem dX3_burning_7 : decode cX3_burning 7 = .ok (.invokevirtual 83, 3) := by decide +kernel
theorem dX3_burning_10 : decode cX3_burning 10 = .ok (.ifCond .eq 11, 3) := by decide +kernel
theorem dX3_burning_13 : decode cX3_burning 13 = .ok (.aload_n 0, 1) := by decide +kernel
theorem dX3_burning_14 : decode cX3_burning 14 = .ok (.iload_n 1, 1) := by decide +kernel
theorem dX3_burning_15 : decode cX3_burning 15 = .ok (.invokevirtual 117, 3) := by decide +kernel
theorem dX3_burning_18 : decode cX3_burning 18 = .ok (.goto 8, 3) := by decide +kernel
theorem dX3_burning_21 : decode cX3_burning 21 = .ok (.aload_n 0, 1) := by decide +kernel
theorem dX3_burning_22 : decode cX3_burning 22 = .ok (.iconst 1, 1) := by decide +kernel
theorem dX3_burning_23 : decode cX3_burning 23 = .ok (.invokevirtual 66, 3) := by decide +kernel
theorem dX3_burning_26 : decode cX3_burning 26 = .ok (.ireturn, 1) := by decide +kernel
set_option maxRecDepth 20000 in
theorem ggX3_all_X3_la : GoodIn wsX3_all wsX3_la := goodIn_r _ [6, 7, 8, 9, 10, 11, 12, 13, 14, 15, 16, 17, 18, 19, 20] (by decide +kernel) (by decide +kernel)
set_option maxRecDepth 20000 in
theorem gX3_all_X3_la : GoodIn wsX3_all (wsV RX3 89 RX3 yX3_la wsX3_la) := goodIn_app (goodIn_of _ (by decide +kernel)) ggX3_all_X3_la
theorem dX3_all_0 : decode cX3_all 0 = .ok (.iconst 0, 1) := by decide +kernel
theorem dX3_all_1 : decode cX3_all 1 = .ok (.istore_n 2, 1) := by decide +kernel
theorem dX3_all_2 : decode cX3_all 2 = .ok (.iconst 0, 1) := by decide +kernel
theorem dX3_all_3 : decode cX3_all 3 = .ok (.istore_n 3, 1) := by decide +kernel
theorem dX3_all_4 : decode cX3_all 4 = .ok (.iload_n 3, 1) := by decide +kernel
theorem dX3_all_5 : decode cX3_all 5 = .ok (.aload_n 0, 1) := by decide +kernel
theorem dX3_all_6 : decode cX3_all 6 = .ok (.getfield 48, 3) := by decide +kernel
theorem dX3_all_9 : decode cX3_all 9 = .ok (.if_icmp .ge 18, 3) := by decide +kernel
theorem dX3_all_12 : decode cX3_all 12 = .ok (.iload_n 2, 1) := by decide +kernel
theorem dX3_all_13 : decode cX3_all 13 = .ok (.aload_n 0, 1) := by decide +kernel
theorem dX3_all_14 : decode cX3_all 14 = .ok (.iload_n 3, 1) := by decide +kernel
theorem dX3_all_15 : decode cX3_all 15 = .ok (.iload_n 1, 1) := by decide +kernel
theorem dX3_all_16 : decode cX3_all 16 = .ok (.invokevirtual 89, 3) := by decide +kernel
theorem dX3_all_19 : decode cX3_all 19 = .ok (.iadd, 1) := by decide +kernel
theorem dX3_all_20 : decode cX3_all 20 = .ok (.istore_n 2, 1) := by decide +kernel
theorem dX3_all_21 : decode cX3_all 21 = .ok (.iinc 3 1, 3) := by decide +kernel
theorem dX3_all_24 : decode cX3_all 24 = .ok (.goto (-20), 3) := by decide +kernel
theorem dX3_all_27 : decode cX3_all 27 = .ok (.iload_n 2, 1) := by decide +kernel
theorem dX3_all_28 : decode cX3_all 28 = .ok (.ireturn, 1) := by decide +kernel
set_option maxRecDepth 20000 in
theorem ggX3_dark_X3_burns : GoodIn wsX3_dark wsX3_burns := goodIn_r _ [6, 7, 8, 9, 10, 5, 11, 12, 13, 14, 15, 16, 17, 18, 19, 20, 21, 22, 23, 24, 25] (by decide +kernel) (by decide +kernel)
set_option maxRecDepth 20000 in
theorem gX3_dark_X3_burns : GoodIn wsX3_dark (wsV RX3 117 RX3 yX3_burns wsX3_burns) := goodIn_app (goodIn_of _ (by decide +kernel)) ggX3_dark_X3_burns
theorem dX3_dark_0 : decode cX3_dark 0 = .ok (.iconst 0, 1) := by decide +kernel
theorem dX3_dark_1 : decode cX3_dark 1 = .ok (.istore_n 1, 1) := by decide +kernel
theorem dX3_dark_2 : decode cX3_dark 2 = .ok (.iconst 0, 1) := by decide +kernel
theorem dX3_dark_3 : decode cX3_dark 3 = .ok (.istore_n 2, 1) := by decide +kernel
theorem dX3_dark_4 : decode cX3_dark 4 = .ok (.iload_n 2, 1) := by decide +kernel
theorem dX3_dark_5 : decode cX3_dark 5 = .ok (.aload_n 0, 1) := by decide +kernel
theorem dX3_dark_6 : decode cX3_dark 6 = .ok (.getfield 45, 3) := by decide +kernel
theorem dX3_dark_9 : decode cX3_dark 9 = .ok (.if_icmp .ge 25, 3) := by decide +kernel
theorem dX3_dark_12 : decode cX3_dark 12 = .ok (.iload_n 1, 1) := by decide +kernel
theorem dX3_dark_13 : decode cX3_dark 13 = .ok (.aload_n 0, 1) := by decide +kernel
theorem dX3_dark_14 : decode cX3_dark 14 = .ok (.iload_n 2, 1) := by decide +kernel
theorem dX3_dark_15 : decode cX3_dark 15 = .ok (.invokevirtual 117, 3) := by decide +kernel
theorem dX3_dark_18 : decode cX3_dark 18 = .ok (.ifCond .ne 7, 3) := by decide +kernel
theorem dX3_dark_21 : decode cX3_dark 21 = .ok (.iconst 1, 1) := by decide +kernel
theorem dX3_dark_22 : decode cX3_dark 22 = .ok (.goto 4, 3) := by decide +kernel
theorem dX3_dark_25 : decode cX3_dark 25 = .ok (.iconst 0, 1) := by decide +kernel
theorem dX3_dark_26 : decode cX3_dark 26 = .ok (.iadd, 1) := by decide +kernel
theorem dX3_dark_27 : decode cX3_dark 27 = .ok (.istore_n 1, 1) := by decide +kernel
theorem dX3_dark_28 : decode cX3_dark 28 = .ok (.iinc 2 1, 3) := by decide +kernel
theorem dX3_dark_31 : decode cX3_dark 31 = .ok (.goto (-27), 3) := by decide +kernel
theorem dX3_dark_34 : decode cX3_dark 34 = .ok (.iload_n 1, 1) := by decide +kernel
theorem dX3_dark_35 : decode cX3_dark 35 = .ok (.ireturn, 1) := by decide +kernel
set_option maxRecDepth 20000 in
theorem ggX3_counted_X3_all : GoodIn wsX3_counted wsX3_all := goodIn_r _ [11, 5, 12, 13, 14, 10, 15, 16, 25, 26, 27, 28, 29, 30, 31, 32, 33, 34, 35, 36, 37] (by decide +kernel) (by decide +kernel)
set_option maxRecDepth 20000 in
theorem gX3_counted_X3_all : GoodIn wsX3_counted (wsV RX3 120 RX3 yX3_all wsX3_all) := goodIn_app (goodIn_of _ (by decide +kernel)) ggX3_counted_X3_all
set_option maxRecDepth 20000 in
theorem ggX3_counted_X3_dark : GoodIn wsX3_counted wsX3_dark := goodIn_r _ [20, 4, 21, 22, 23, 10, 24, 5, 12, 13, 14, 15, 16, 25, 26, 27, 28, 29, 30, 31, 32, 33, 34, 35, 36, 37] (by decide +kernel) (by decide +kernel)
set_option maxRecDepth 20000 in
theorem gX3_counted_X3_dark : GoodIn wsX3_counted (wsV RX3 123 RX3 yX3_dark wsX3_dark) := goodIn_app (goodIn_of _ (by decide +kernel)) ggX3_counted_X3_dark
theorem dX3_counted_0 : decode cX3_counted 0 = .ok (.bipush 10, 2) := by decide +kernel
theorem dX3_counted_2 : decode cX3_counted 2 = .ok (.newarray .int, 2) := by decide +kernel
theorem dX3_counted_4 : decode cX3_counted 4 = .ok (.dup, 1) := by decide +kernel
theorem dX3_counted_5 : decode cX3_counted 5 = .ok (.iconst 0, 1) := by decide +kernel
theorem dX3_counted_6 : decode cX3_counted 6 = .ok (.aload_n 0, 1) := by decide +kernel
theorem dX3_counted_7 : decode cX3_counted 7 = .ok (.getfield 31, 3) := by decide +kernel
theorem dX3_counted_10 : decode cX3_counted 10 = .ok (.iconst 0, 1) := by decide +kernel
theorem dX3_counted_11 : decode cX3_counted 11 = .ok (.iaload, 1) := by decide +kernel
theorem dX3_counted_12 : decode cX3_counted 12 = .ok (.iastore, 1) := by decide +kernel
theorem dX3_counted_13 : decode cX3_counted 13 = .ok (.dup, 1) := by decide +kernel
theorem dX3_counted_14 : decode cX3_counted 14 = .ok (.iconst 1, 1) := by decide +kernel
theorem dX3_counted_15 : decode cX3_counted 15 = .ok (.aload_n 0, 1) := by decide +kernel
theorem dX3_counted_16 : decode cX3_counted 16 = .ok (.getfield 31, 3) := by decide +kernel
theorem dX3_counted_19 : decode cX3_counted 19 = .ok (.iconst 1, 1) := by decide +kernel
theorem dX3_counted_20 : decode cX3_counted 20 = .ok (.iaload, 1) := by decide +kernel
theorem dX3_counted_21 : decode cX3_counted 21 = .ok (.iastore, 1) := by decide +kernel
theorem dX3_counted_22 : decode cX3_counted 22 = .ok (.dup, 1) := by decide +kernel
theorem dX3_counted_23 : decode cX3_counted 23 = .ok (.iconst 2, 1) := by decide +kernel
theorem dX3_counted_24 : decode cX3_counted 24 = .ok (.aload_n 0, 1) := by decide +kernel
theorem dX3_counted_25 : decode cX3_counted 25 = .ok (.getfield 38, 3) := by decide +kernel
theorem dX3_counted_28 : decode cX3_counted 28 = .ok (.iastore, 1) := by decide +kernel
theorem dX3_counted_29 : decode cX3_counted 29 = .ok (.dup, 1) := by decide +kernel
theorem dX3_counted_30 : decode cX3_counted 30 = .ok (.iconst 3, 1) := by decide +kernel
theorem dX3_counted_31 : decode cX3_counted 31 = .ok (.aload_n 0, 1) := by decide +kernel
theorem dX3_counted_32 : decode cX3_counted 32 = .ok (.getfield 45, 3) := by decide +kernel
theorem dX3_counted_35 : decode cX3_counted 35 = .ok (.iastore, 1) := by decide +kernel
theorem dX3_counted_36 : decode cX3_counted 36 = .ok (.dup, 1) := by decide +kernel
theorem dX3_counted_37 : decode cX3_counted 37 = .ok (.iconst 4, 1) := by decide +kernel
theorem dX3_counted_38 : decode cX3_counted 38 = .ok (.aload_n 0, 1) := by decide +kernel
theorem dX3_counted_39 : decode cX3_counted 39 = .ok (.getfield 48, 3) := by decide +kernel
theorem dX3_counted_42 : decode cX3_counted 42 = .ok (.iastore, 1) := by decide +kernel
theorem dX3_counted_43 : decode cX3_counted 43 = .ok (.dup, 1) := by decide +kernel
theorem dX3_counted_44 : decode cX3_counted 44 = .ok (.iconst 5, 1) := by decide +kernel
theorem dX3_counted_45 : decode cX3_counted 45 = .ok (.aload_n 0, 1) := by decide +kernel
theorem dX3_counted_46 : decode cX3_counted 46 = .ok (.iconst 5, 1) := by decide +kernel
theorem dX3_counted_47 : decode cX3_counted 47 = .ok (.invokevirtual 120, 3) := by decide +kernel
theorem dX3_counted_50 : decode cX3_counted 50 = .ok (.iastore, 1) := by decide +kernel
theorem dX3_counted_51 : decode cX3_counted 51 = .ok (.dup, 1) := by decide +kernel
theorem dX3_counted_52 : decode cX3_counted 52 = .ok (.bipush 6, 2) := by decide +kernel
theorem dX3_counted_54 : decode cX3_counted 54 = .ok (.aload_n 0, 1) := by decide +kernel
theorem dX3_counted_55 : decode cX3_counted 55 = .ok (.invokevirtual 123, 3) := by decide +kernel
theorem dX3_counted_58 : decode cX3_counted 58 = .ok (.iastore, 1) := by decide +kernel
theorem dX3_counted_59 : decode cX3_counted 59 = .ok (.dup, 1) := by decide +kernel
theorem dX3_counted_60 : decode cX3_counted 60 = .ok (.bipush 7, 2) := by decide +kernel
theorem dX3_counted_62 : decode cX3_counted 62 = .ok (.aload_n 0, 1) := by decide +kernel
theorem dX3_counted_63 : decode cX3_counted 63 = .ok (.getfield 51, 3) := by decide +kernel
theorem dX3_counted_66 : decode cX3_counted 66 = .ok (.iastore, 1) := by decide +kernel
theorem dX3_counted_67 : decode cX3_counted 67 = .ok (.dup, 1) := by decide +kernel
theorem dX3_counted_68 : decode cX3_counted 68 = .ok (.bipush 8, 2) := by decide +kernel
theorem dX3_counted_70 : decode cX3_counted 70 = .ok (.aload_n 0, 1) := by decide +kernel
theorem dX3_counted_71 : decode cX3_counted 71 = .ok (.iconst 3, 1) := by decide +kernel
theorem dX3_counted_72 : decode cX3_counted 72 = .ok (.invokevirtual 120, 3) := by decide +kernel
theorem dX3_counted_75 : decode cX3_counted 75 = .ok (.iastore, 1) := by decide +kernel
theorem dX3_counted_76 : decode cX3_counted 76 = .ok (.dup, 1) := by decide +kernel
theorem dX3_counted_77 : decode cX3_counted 77 = .ok (.bipush 9, 2) := by decide +kernel
theorem dX3_counted_79 : decode cX3_counted 79 = .ok (.aload_n 0, 1) := by decide +kernel
theorem dX3_counted_80 : decode cX3_counted 80 = .ok (.getfield 31, 3) := by decide +kernel
theorem dX3_counted_83 : decode cX3_counted 83 = .ok (.iconst 2, 1) := by decide +kernel
theorem dX3_counted_84 : decode cX3_counted 84 = .ok (.iaload, 1) := by decide +kernel
theorem dX3_counted_85 : decode cX3_counted 85 = .ok (.iastore, 1) := by decide +kernel
theorem dX3_counted_86 : decode cX3_counted 86 = .ok (.astore_n 2, 1) := by decide +kernel
theorem dX3_counted_87 : decode cX3_counted 87 = .ok (.aload_n 2, 1) := by decide +kernel
theorem dX3_counted_88 : decode cX3_counted 88 = .ok (.iload_n 1, 1) := by decide +kernel
theorem dX3_counted_89 : decode cX3_counted 89 = .ok (.iaload, 1) := by decide +kernel
theorem dX3_counted_90 : decode cX3_counted 90 = .ok (.ireturn, 1) := by decide +kernel
set_option maxRecDepth 20000 in
theorem ggX3_count_X3_isIn : GoodIn wsX3_count wsX3_isIn := goodIn_r _ [5] (by decide +kernel) (by decide +kernel)
set_option maxRecDepth 20000 in
theorem gX3_count_X3_isIn : GoodIn wsX3_count (va_wsS RX3 41 yX3_isIn wsX3_isIn) := goodIn_app (goodIn_of _ (by decide +kernel)) ggX3_count_X3_isIn
set_option maxRecDepth 20000 in
theorem ggX3_count_X3_counted : GoodIn wsX3_count wsX3_counted := goodIn_r _ [9, 10, 11, 12, 13, 14, 15, 16, 17, 18, 4, 19, 20, 21, 22, 23, 24, 25, 26, 27, 28, 29, 30, 31, 32, 37, 38, 39, 40, 41, 42, 43, 44, 45, 46, 47, 48, 49] (by decide +kernel) (by decide +kernel)
set_option maxRecDepth 20000 in
theorem gX3_count_X3_counted : GoodIn wsX3_count (wsV RX3 127 RX3 yX3_counted wsX3_counted) := goodIn_app (goodIn_of _ (by decide +kernel)) ggX3_count_X3_counted
set_option maxRecDepth 20000 in
theorem ggX3_count_X3_fail : GoodIn wsX3_count wsX3_fail := goodIn_r _ [36, 1, 37, 38, 39, 40, 41, 42, 43, 44, 45, 46, 47, 48, 49] (by decide +kernel) (by decide +kernel)
set_option maxRecDepth 20000 in
theorem gX3_count_X3_fail : GoodIn wsX3_count (wsV RX3 66 RX3 yX3_fail wsX3_fail) := goodIn_app (goodIn_of _ (by decide +kernel)) ggX3_count_X3_fail
theorem dX3_count_0 : decode cX3_count 0 = .ok (.aload_n 0, 1) := by decide +kernel
theorem dX3_count_1 : decode cX3_count 1 = .ok (.iconst 0, 1) := by decide +kernel
theorem dX3_count_2 : decode cX3_count 2 = .ok (.putfield 34, 3) := by decide +kernel
theorem dX3_count_5 : decode cX3_count 5 = .ok (.iload_n 1, 1) := by decide +kernel
theorem dX3_count_6 : decode cX3_count 6 = .ok (.iconst 0, 1) := by decide +kernel
theorem dX3_count_7 : decode cX3_count 7 = .ok (.bipush 9, 2) := by decide +kernel
theorem dX3_count_9 : decode cX3_count 9 = .ok (.invokestatic 41, 3) := by decide +kernel
theorem dX3_count_12 : decode cX3_count 12 = .ok (.ifCond .eq 11, 3) := by decide +kernel
theorem dX3_count_15 : decode cX3_count 15 = .ok (.aload_n 0, 1) := by decide +kernel
theorem dX3_count_16 : decode cX3_count 16 = .ok (.iload_n 1, 1) := by decide +kernel
theorem dX3_count_17 : decode cX3_count 17 = .ok (.invokevirtual 127, 3) := by decide +kernel
theorem dX3_count_20 : decode cX3_count 20 = .ok (.goto 8, 3) := by decide +kernel
theorem dX3_count_23 : decode cX3_count 23 = .ok (.aload_n 0, 1) := by decide +kernel
theorem dX3_count_24 : decode cX3_count 24 = .ok (.iconst 1, 1) := by decide +kernel
theorem dX3_count_25 : decode cX3_count 25 = .ok (.invokevirtual 66, 3) := by decide +kernel
theorem dX3_count_28 : decode cX3_count 28 = .ok (.ireturn, 1) := by decide +kernel
set_option maxRecDepth 20000 in
theorem ggX3_corner__X3_la : GoodIn wsX3_corner_ wsX3_la := goodIn_r _ [5, 6, 26, 27, 28, 29, 30, 31, 32, 33, 34, 35, 36, 37, 38] (by decide +kernel) (by decide +kernel)
set_option maxRecDepth 20000 in
theorem gX3_corner__X3_la : GoodIn wsX3_corner_ (wsV RX3 89 RX3 yX3_la wsX3_la) := goodIn_app (goodIn_of _ (by decide +kernel)) ggX3_corner__X3_la
set_option maxRecDepth 20000 in
theorem ggX3_corner__X3_ro : GoodIn wsX3_corner_ wsX3_ro := goodIn_r _ [10, 11, 26, 27, 28, 29, 30, 31, 32, 33, 34, 35, 36, 37, 38] (by decide +kernel) (by decide +kernel)
set_option maxRecDepth 20000 in
theorem gX3_corner__X3_ro : GoodIn wsX3_corner_ (wsV RX3 54 RX3 yX3_ro wsX3_ro) := goodIn_app (goodIn_of _ (by decide +kernel)) ggX3_corner__X3_ro
set_option maxRecDepth 20000 in
theorem ggX3_corner__X3_pe : GoodIn wsX3_corner_ wsX3_pe := goodIn_r _ [15, 16, 26, 27, 28, 29, 30, 31, 32, 33, 34, 35, 36, 37, 38] (by decide +kernel) (by decide +kernel)
set_option maxRecDepth 20000 in
theorem gX3_corner__X3_pe : GoodIn wsX3_corner_ (wsV RX3 99 RX3 yX3_pe wsX3_pe) := goodIn_app (goodIn_of _ (by decide +kernel)) ggX3_corner__X3_pe
set_option maxRecDepth 20000 in
theorem ggX3_corner__X3_away : GoodIn wsX3_corner_ wsX3_away := goodIn_r _ [20, 21, 22, 23, 24, 25, 26, 27, 28, 29, 30, 31, 32, 33, 34, 35, 36, 37, 38] (by decide +kernel) (by decide +kernel)
set_option maxRecDepth 20000 in
theorem gX3_corner__X3_away : GoodIn wsX3_corner_ (wsV RX3 105 RX3 yX3_away wsX3_away) := goodIn_app (goodIn_of _ (by decide +kernel)) ggX3_corner__X3_away
theorem dX3_corner__0 : decode cX3_corner_ 0 = .ok (.aload_n 0, 1) := by decide +kernel
theorem dX3_corner__1 : decode cX3_corner_ 1 = .ok (.aload_n 0, 1) := by decide +kernel
theorem dX3_corner__2 : decode cX3_corner_ 2 = .ok (.iload_n 2, 1) := by decide +kernel
theorem dX3_corner__3 : decode cX3_corner_ 3 = .ok (.iconst 0, 1) := by decide +kernel
theorem dX3_corner__4 : decode cX3_corner_ 4 = .ok (.invokevirtual 89, 3) := by decide +kernel
theorem dX3_corner__7 : decode cX3_corner_ 7 = .ok (.iconst 0, 1) := by decide +kernel
theorem dX3_corner__8 : decode cX3_corner_ 8 = .ok (.invokevirtual 54, 3) := by decide +kernel
theorem dX3_corner__11 : decode cX3_corner_ 11 = .ok (.istore_n 3, 1) := by decide +kernel
theorem dX3_corner__12 : decode cX3_corner_ 12 = .ok (.aload_n 0, 1) := by decide +kernel
theorem dX3_corner__13 : decode cX3_corner_ 13 = .ok (.aload_n 0, 1) := by decide +kernel
theorem dX3_corner__14 : decode cX3_corner_ 14 = .ok (.iload_n 2, 1) := by decide +kernel
theorem dX3_corner__15 : decode cX3_corner_ 15 = .ok (.iconst 0, 1) := by decide +kernel
theorem dX3_corner__16 : decode cX3_corner_ 16 = .ok (.invokevirtual 89, 3) := by decide +kernel
theorem dX3_corner__19 : decode cX3_corner_ 19 = .ok (.iconst 1, 1) := by decide +kernel
theorem dX3_corner__20 : decode cX3_corner_ 20 = .ok (.invokevirtual 54, 3) := by decide +kernel
theorem dX3_corner__23 : decode cX3_corner_ 23 = .ok (.istore 4, 2) := by decide +kernel
theorem dX3_corner__25 : decode cX3_corner_ 25 = .ok (.aload_n 0, 1) := by decide +kernel
theorem dX3_corner__26 : decode cX3_corner_ 26 = .ok (.aload_n 0, 1) := by decide +kernel
theorem dX3_corner__27 : decode cX3_corner_ 27 = .ok (.iload_n 1, 1) := by decide +kernel
theorem dX3_corner__28 : decode cX3_corner_ 28 = .ok (.iconst 1, 1) := by decide +kernel
theorem dX3_corner__29 : decode cX3_corner_ 29 = .ok (.invokevirtual 99, 3) := by decide +kernel
theorem dX3_corner__32 : decode cX3_corner_ 32 = .ok (.iload 4, 2) := by decide +kernel
theorem dX3_corner__34 : decode cX3_corner_ 34 = .ok (.invokevirtual 105, 3) := by decide +kernel
theorem dX3_corner__37 : decode cX3_corner_ 37 = .ok (.aload_n 0, 1) := by decide +kernel
theorem dX3_corner__38 : decode cX3_corner_ 38 = .ok (.aload_n 0, 1) := by decide +kernel
theorem dX3_corner__39 : decode cX3_corner_ 39 = .ok (.iload_n 1, 1) := by decide +kernel
theorem dX3_corner__40 : decode cX3_corner_ 40 = .ok (.iconst 1, 1) := by decide +kernel
theorem dX3_corner__41 : decode cX3_corner_ 41 = .ok (.invokevirtual 99, 3) := by decide +kernel
theorem dX3_corner__44 : decode cX3_corner_ 44 = .ok (.iload_n 3, 1) := by decide +kernel
theorem dX3_corner__45 : decode cX3_corner_ 45 = .ok (.invokevirtual 105, 3) := by decide +kernel
theorem dX3_corner__48 : decode cX3_corner_ 48 = .ok (.if_icmp .ge 8, 3) := by decide +kernel
theorem dX3_corner__51 : decode cX3_corner_ 51 = .ok (.iload 4, 2) := by decide +kernel
theorem dX3_corner__53 : decode cX3_corner_ 53 = .ok (.goto 4, 3) := by decide +kernel
theorem dX3_corner__56 : decode cX3_corner_ 56 = .ok (.iload_n 3, 1) := by decide +kernel
theorem dX3_corner__57 : decode cX3_corner_ 57 = .ok (.istore 5, 2) := by decide +kernel
theorem dX3_corner__59 : decode cX3_corner_ 59 = .ok (.aload_n 0, 1) := by decide +kernel
theorem dX3_corner__60 : decode cX3_corner_ 60 = .ok (.iload_n 2, 1) := by decide +kernel
theorem dX3_corner__61 : decode cX3_corner_ 61 = .ok (.iconst 1, 1) := by decide +kernel
theorem dX3_corner__62 : decode cX3_corner_ 62 = .ok (.invokevirtual 89, 3) := by decide +kernel
theorem dX3_corner__65 : decode cX3_corner_ 65 = .ok (.aload_n 0, 1) := by decide +kernel
theorem dX3_corner__66 : decode cX3_corner_ 66 = .ok (.iload_n 1, 1) := by decide +kernel
theorem dX3_corner__67 : decode cX3_corner_ 67 = .ok (.iconst 2, 1) := by decide +kernel
theorem dX3_corner__68 : decode cX3_corner_ 68 = .ok (.invokevirtual 99, 3) := by decide +kernel
theorem dX3_corner__71 : decode cX3_corner_ 71 = .ok (.iconst 2, 1) := by decide +kernel
theorem dX3_corner__72 : decode cX3_corner_ 72 = .ok (.iadd, 1) := by decide +kernel
theorem dX3_corner__73 : decode cX3_corner_ 73 = .ok (.if_icmp .gt 21, 3) := by decide +kernel
theorem dX3_corner__76 : decode cX3_corner_ 76 = .ok (.aload_n 0, 1) := by decide +kernel
theorem dX3_corner__77 : decode cX3_corner_ 77 = .ok (.aload_n 0, 1) := by decide +kernel
theorem dX3_corner__78 : decode cX3_corner_ 78 = .ok (.iload_n 1, 1) := by decide +kernel
theorem dX3_corner__79 : decode cX3_corner_ 79 = .ok (.iconst 1, 1) := by decide +kernel
theorem dX3_corner__80 : decode cX3_corner_ 80 = .ok (.invokevirtual 99, 3) := by decide +kernel
theorem dX3_corner__83 : decode cX3_corner_ 83 = .ok (.iload 5, 2) := by decide +kernel
theorem dX3_corner__85 : decode cX3_corner_ 85 = .ok (.invokevirtual 105, 3) := by decide +kernel
theorem dX3_corner__88 : decode cX3_corner_ 88 = .ok (.sipush 9999, 3) := by decide +kernel
theorem dX3_corner__91 : decode cX3_corner_ 91 = .ok (.if_icmp .ne 7, 3) := by decide +kernel
theorem dX3_corner__94 : decode cX3_corner_ 94 = .ok (.iconst (-1), 1) := by decide +kernel
theorem dX3_corner__95 : decode cX3_corner_ 95 = .ok (.goto 5, 3) := by decide +kernel
theorem dX3_corner__98 : decode cX3_corner_ 98 = .ok (.iload 5, 2) := by decide +kernel
theorem dX3_corner__100 : decode cX3_corner_ 100 = .ok (.ireturn, 1) := by decide +kernel
set_option maxRecDepth 20000 in
theorem ggX3_look_X3_pe : GoodIn wsX3_look wsX3_pe := goodIn_r _ [6, 7, 40, 41, 42, 43, 44, 45, 46, 47, 48, 49, 50, 51, 52] (by decide +kernel) (by decide +kernel)
set_option maxRecDepth 20000 in
theorem gX3_look_X3_pe : GoodIn wsX3_look (wsV RX3 99 RX3 yX3_pe wsX3_pe) := goodIn_app (goodIn_of _ (by decide +kernel)) ggX3_look_X3_pe
set_option maxRecDepth 20000 in
theorem ggX3_look_X3_la : GoodIn wsX3_look wsX3_la := goodIn_r _ [11, 12, 40, 41, 42, 43, 44, 45, 46, 47, 48, 49, 50, 51, 52] (by decide +kernel) (by decide +kernel)
set_option maxRecDepth 20000 in
theorem gX3_look_X3_la : GoodIn wsX3_look (wsV RX3 89 RX3 yX3_la wsX3_la) := goodIn_app (goodIn_of _ (by decide +kernel)) ggX3_look_X3_la
set_option maxRecDepth 20000 in
theorem ggX3_look_X3_goer : GoodIn wsX3_look wsX3_goer := goodIn_r _ [16, 17, 2, 3, 4, 5, 6, 7, 40, 41, 42, 43, 44, 45, 46, 47, 48, 49, 50, 51, 52] (by decide +kernel) (by decide +kernel)
set_option maxRecDepth 20000 in
theorem gX3_look_X3_goer : GoodIn wsX3_look (wsV RX3 108 RX3 yX3_goer wsX3_goer) := goodIn_app (goodIn_of _ (by decide +kernel)) ggX3_look_X3_goer
set_option maxRecDepth 20000 in
theorem ggX3_look_X3_corner_ : GoodIn wsX3_look wsX3_corner_ := goodIn_r _ [21, 8, 9, 10, 5, 11, 12, 22, 23, 24, 25, 26, 2, 3, 4, 6, 7, 27, 28, 29, 30, 31, 32, 33, 34, 35, 40, 41, 42, 43, 44, 45, 46, 47, 48, 49, 50, 51, 52] (by decide +kernel) (by decide +kernel)
set_option maxRecDepth 20000 in
theorem gX3_look_X3_corner_ : GoodIn wsX3_look (wsV RX3 130 RX3 yX3_corner_ wsX3_corner_) := goodIn_app (goodIn_of _ (by decide +kernel)) ggX3_look_X3_corner_
set_option maxRecDepth 20000 in
theorem ggX3_look_X3_put : GoodIn wsX3_look wsX3_put := goodIn_r _ [39, 7, 40, 41, 42, 43, 44, 45, 46, 47, 48, 49, 50, 51, 52] (by decide +kernel) (by decide +kernel)
set_option maxRecDepth 20000 in
theorem gX3_look_X3_put : GoodIn wsX3_look (wsV RX3 102 RX3 yX3_put wsX3_put) := goodIn_app (goodIn_of _ (by decide +kernel)) ggX3_look_X3_put
set_option maxRecDepth 20000 in
theorem ggX3_look_X3_away : GoodIn wsX3_look wsX3_away := goodIn_r _ [30, 31, 32, 33, 34, 35, 40, 41, 42, 43, 44, 45, 46, 47, 48, 49, 50, 51, 52] (by decide +kernel) (by decide +kernel)
set_option maxRecDepth 20000 in
theorem gX3_look_X3_away : GoodIn wsX3_look (wsV RX3 105 RX3 yX3_away wsX3_away) := goodIn_app (goodIn_of _ (by decide +kernel)) ggX3_look_X3_away
theorem dX3_look_0 : decode cX3_look 0 = .ok (.aload_n 0, 1) := by decide +kernel
theorem dX3_look_1 : decode cX3_look 1 = .ok (.iload_n 1, 1) := by decide +kernel
theorem dX3_look_2 : decode cX3_look 2 = .ok (.iconst 4, 1) := by decide +kernel
theorem dX3_look_3 : decode cX3_look 3 = .ok (.invokevirtual 99, 3) := by decide +kernel
theorem dX3_look_6 : decode cX3_look 6 = .ok (.istore_n 2, 1) := by decide +kernel
theorem dX3_look_7 : decode cX3_look 7 = .ok (.iconst 1, 1) := by decide +kernel
theorem dX3_look_8 : decode cX3_look 8 = .ok (.istore_n 3, 1) := by decide +kernel
theorem dX3_look_9 : decode cX3_look 9 = .ok (.iload_n 3, 1) := by decide +kernel
theorem dX3_look_10 : decode cX3_look 10 = .ok (.iload_n 2, 1) := by decide +kernel
theorem dX3_look_11 : decode cX3_look 11 = .ok (.if_icmp .gt 149, 3) := by decide +kernel
theorem dX3_look_14 : decode cX3_look 14 = .ok (.aload_n 0, 1) := by decide +kernel
theorem dX3_look_15 : decode cX3_look 15 = .ok (.iload_n 1, 1) := by decide +kernel
theorem dX3_look_16 : decode cX3_look 16 = .ok (.bipush 8, 2) := by decide +kernel
theorem dX3_look_18 : decode cX3_look 18 = .ok (.invokevirtual 99, 3) := by decide +kernel
theorem dX3_look_21 : decode cX3_look 21 = .ok (.iload_n 3, 1) := by decide +kernel
theorem dX3_look_22 : decode cX3_look 22 = .ok (.iadd, 1) := by decide +kernel
theorem dX3_look_23 : decode cX3_look 23 = .ok (.iload_n 2, 1) := by decide +kernel
theorem dX3_look_24 : decode cX3_look 24 = .ok (.irem, 1) := by decide +kernel
theorem dX3_look_25 : decode cX3_look 25 = .ok (.istore 4, 2) := by decide +kernel
theorem dX3_look_27 : decode cX3_look 27 = .ok (.aload_n 0, 1) := by decide +kernel
theorem dX3_look_28 : decode cX3_look 28 = .ok (.getfield 25, 3) := by decide +kernel
theorem dX3_look_31 : decode cX3_look 31 = .ok (.bipush 10, 2) := by decide +kernel
theorem dX3_look_33 : decode cX3_look 33 = .ok (.iload_n 1, 1) := by decide +kernel
theorem dX3_look_34 : decode cX3_look 34 = .ok (.imul, 1) := by decide +kernel
theorem dX3_look_35 : decode cX3_look 35 = .ok (.iload 4, 2) := by decide +kernel
theorem dX3_look_37 : decode cX3_look 37 = .ok (.iadd, 1) := by decide +kernel
theorem dX3_look_38 : decode cX3_look 38 = .ok (.iaload, 1) := by decide +kernel
theorem dX3_look_39 : decode cX3_look 39 = .ok (.istore 5, 2) := by decide +kernel
theorem dX3_look_41 : decode cX3_look 41 = .ok (.aload_n 0, 1) := by decide +kernel
theorem dX3_look_42 : decode cX3_look 42 = .ok (.iload 5, 2) := by decide +kernel
theorem dX3_look_44 : decode cX3_look 44 = .ok (.iconst 5, 1) := by decide +kernel
theorem dX3_look_45 : decode cX3_look 45 = .ok (.invokevirtual 89, 3) := by decide +kernel
theorem dX3_look_48 : decode cX3_look 48 = .ok (.iconst 1, 1) := by decide +kernel
theorem dX3_look_49 : decode cX3_look 49 = .ok (.if_icmp .eq 105, 3) := by decide +kernel
theorem dX3_look_52 : decode cX3_look 52 = .ok (.aload_n 0, 1) := by decide +kernel
theorem dX3_look_53 : decode cX3_look 53 = .ok (.iload 5, 2) := by decide +kernel
theorem dX3_look_55 : decode cX3_look 55 = .ok (.invokevirtual 108, 3) := by decide +kernel
theorem dX3_look_58 : decode cX3_look 58 = .ok (.iconst (-1), 1) := by decide +kernel
theorem dX3_look_59 : decode cX3_look 59 = .ok (.if_icmp .ne 95, 3) := by decide +kernel
theorem dX3_look_62 : decode cX3_look 62 = .ok (.aload_n 0, 1) := by decide +kernel
theorem dX3_look_63 : decode cX3_look 63 = .ok (.iload_n 1, 1) := by decide +kernel
theorem dX3_look_64 : decode cX3_look 64 = .ok (.iload 5, 2) := by decide +kernel
theorem dX3_look_66 : decode cX3_look 66 = .ok (.invokevirtual 130, 3) := by decide +kernel
theorem dX3_look_69 : decode cX3_look 69 = .ok (.iconst (-1), 1) := by decide +kernel
theorem dX3_look_70 : decode cX3_look 70 = .ok (.if_icmp .ne 6, 3) := by decide +kernel
theorem dX3_look_73 : decode cX3_look 73 = .ok (.goto 81, 3) := by decide +kernel
theorem dX3_look_76 : decode cX3_look 76 = .ok (.aload_n 0, 1) := by decide +kernel
theorem dX3_look_77 : decode cX3_look 77 = .ok (.iload_n 1, 1) := by decide +kernel
theorem dX3_look_78 : decode cX3_look 78 = .ok (.iconst 3, 1) := by decide +kernel
theorem dX3_look_79 : decode cX3_look 79 = .ok (.invokevirtual 99, 3) := by decide +kernel
theorem dX3_look_82 : decode cX3_look 82 = .ok (.ifCond .ne 14, 3) := by decide +kernel
theorem dX3_look_85 : decode cX3_look 85 = .ok (.aload_n 0, 1) := by decide +kernel
theorem dX3_look_86 : decode cX3_look 86 = .ok (.iload 5, 2) := by decide +kernel
theorem dX3_look_88 : decode cX3_look 88 = .ok (.iconst 3, 1) := by decide +kernel
theorem dX3_look_89 : decode cX3_look 89 = .ok (.invokevirtual 89, 3) := by decide +kernel
theorem dX3_look_92 : decode cX3_look 92 = .ok (.ifCond .ne 4, 3) := by decide +kernel
theorem dX3_look_95 : decode cX3_look 95 = .ok (.return_, 1) := by decide +kernel
theorem dX3_look_96 : decode cX3_look 96 = .ok (.aload_n 0, 1) := by decide +kernel
theorem dX3_look_97 : decode cX3_look 97 = .ok (.iload_n 1, 1) := by decide +kernel
theorem dX3_look_98 : decode cX3_look 98 = .ok (.iconst 5, 1) := by decide +kernel
theorem dX3_look_99 : decode cX3_look 99 = .ok (.iload 5, 2) := by decide +kernel
theorem dX3_look_101 : decode cX3_look 101 = .ok (.invokevirtual 102, 3) := by decide +kernel
theorem dX3_look_104 : decode cX3_look 104 = .ok (.aload_n 0, 1) := by decide +kernel
theorem dX3_look_105 : decode cX3_look 105 = .ok (.iload_n 1, 1) := by decide +kernel
theorem dX3_look_106 : decode cX3_look 106 = .ok (.bipush 7, 2) := by decide +kernel
theorem dX3_look_108 : decode cX3_look 108 = .ok (.aload_n 0, 1) := by decide +kernel
theorem dX3_look_109 : decode cX3_look 109 = .ok (.iload_n 1, 1) := by decide +kernel
theorem dX3_look_110 : decode cX3_look 110 = .ok (.iload 5, 2) := by decide +kernel
theorem dX3_look_112 : decode cX3_look 112 = .ok (.invokevirtual 130, 3) := by decide +kernel
theorem dX3_look_115 : decode cX3_look 115 = .ok (.invokevirtual 102, 3) := by decide +kernel
theorem dX3_look_118 : decode cX3_look 118 = .ok (.aload_n 0, 1) := by decide +kernel
theorem dX3_look_119 : decode cX3_look 119 = .ok (.iload_n 1, 1) := by decide +kernel
theorem dX3_look_120 : decode cX3_look 120 = .ok (.bipush 6, 2) := by decide +kernel
theorem dX3_look_122 : decode cX3_look 122 = .ok (.aload_n 0, 1) := by decide +kernel
theorem dX3_look_123 : decode cX3_look 123 = .ok (.aload_n 0, 1) := by decide +kernel
theorem dX3_look_124 : decode cX3_look 124 = .ok (.iload_n 1, 1) := by decide +kernel
theorem dX3_look_125 : decode cX3_look 125 = .ok (.iconst 1, 1) := by decide +kernel
theorem dX3_look_126 : decode cX3_look 126 = .ok (.invokevirtual 99, 3) := by decide +kernel
theorem dX3_look_129 : decode cX3_look 129 = .ok (.aload_n 0, 1) := by decide +kernel
theorem dX3_look_130 : decode cX3_look 130 = .ok (.iload_n 1, 1) := by decide +kernel
theorem dX3_look_131 : decode cX3_look 131 = .ok (.bipush 7, 2) := by decide +kernel
theorem dX3_look_133 : decode cX3_look 133 = .ok (.invokevirtual 99, 3) := by decide +kernel
theorem dX3_look_136 : decode cX3_look 136 = .ok (.invokevirtual 105, 3) := by decide +kernel
theorem dX3_look_139 : decode cX3_look 139 = .ok (.iconst 3, 1) := by decide +kernel
theorem dX3_look_140 : decode cX3_look 140 = .ok (.iadd, 1) := by decide +kernel
theorem dX3_look_141 : decode cX3_look 141 = .ok (.invokevirtual 102, 3) := by decide +kernel
theorem dX3_look_144 : decode cX3_look 144 = .ok (.aload_n 0, 1) := by decide +kernel
theorem dX3_look_145 : decode cX3_look 145 = .ok (.iload_n 1, 1) := by decide +kernel
theorem dX3_look_146 : decode cX3_look 146 = .ok (.bipush 8, 2) := by decide +kernel
theorem dX3_look_148 : decode cX3_look 148 = .ok (.iload 4, 2) := by decide +kernel
theorem dX3_look_150 : decode cX3_look 150 = .ok (.invokevirtual 102, 3) := by decide +kernel
theorem dX3_look_153 : decode cX3_look 153 = .ok (.return_, 1) := by decide +kernel
theorem dX3_look_154 : decode cX3_look 154 = .ok (.iinc 3 1, 3) := by decide +kernel
theorem dX3_look_157 : decode cX3_look 157 = .ok (.goto (-148), 3) := by decide +kernel
theorem dX3_look_160 : decode cX3_look 160 = .ok (.return_, 1) := by decide +kernel
set_option maxRecDepth 20000 in
theorem ggX3_goOn_X3_pe : GoodIn wsX3_goOn wsX3_pe := goodIn_r _ [9, 10, 48, 49, 50, 51, 52, 53, 54, 55, 56, 57, 58, 59, 60] (by decide +kernel) (by decide +kernel)
set_option maxRecDepth 20000 in
theorem gX3_goOn_X3_pe : GoodIn wsX3_goOn (wsV RX3 99 RX3 yX3_pe wsX3_pe) := goodIn_app (goodIn_of _ (by decide +kernel)) ggX3_goOn_X3_pe
set_option maxRecDepth 20000 in
theorem ggX3_goOn_X3_look : GoodIn wsX3_goOn wsX3_look := goodIn_r _ [14, 15, 5, 6, 7, 8, 9, 10, 16, 17, 18, 19, 20, 21, 22, 23, 24, 25, 26, 27, 28, 29, 30, 31, 32, 33, 34, 35, 36, 37, 38, 39, 1, 2, 3, 4, 40, 41, 42, 43, 48, 49, 50, 51, 52, 53, 54, 55, 56, 57, 58, 59, 60] (by decide +kernel) (by decide +kernel)
set_option maxRecDepth 20000 in
theorem gX3_goOn_X3_look : GoodIn wsX3_goOn (wsV RX3 133 RX3 yX3_look wsX3_look) := goodIn_app (goodIn_of _ (by decide +kernel)) ggX3_goOn_X3_look
set_option maxRecDepth 20000 in
theorem ggX3_goOn_X3_put : GoodIn wsX3_goOn wsX3_put := goodIn_r _ [43, 10, 48, 49, 50, 51, 52, 53, 54, 55, 56, 57, 58, 59, 60] (by decide +kernel) (by decide +kernel)
set_option maxRecDepth 20000 in
theorem gX3_goOn_X3_put : GoodIn wsX3_goOn (wsV RX3 102 RX3 yX3_put wsX3_put) := goodIn_app (goodIn_of _ (by decide +kernel)) ggX3_goOn_X3_put
set_option maxRecDepth 20000 in
theorem ggX3_goOn_X3_la : GoodIn wsX3_goOn wsX3_la := goodIn_r _ [19, 20, 48, 49, 50, 51, 52, 53, 54, 55, 56, 57, 58, 59, 60] (by decide +kernel) (by decide +kernel)
set_option maxRecDepth 20000 in
theorem gX3_goOn_X3_la : GoodIn wsX3_goOn (wsV RX3 89 RX3 yX3_la wsX3_la) := goodIn_app (goodIn_of _ (by decide +kernel)) ggX3_goOn_X3_la
set_option maxRecDepth 20000 in
theorem ggX3_goOn_X3_setLamp : GoodIn wsX3_goOn wsX3_setLamp := goodIn_r _ [47, 20, 48, 49, 50, 51, 52, 53, 54, 55, 56, 57, 58, 59, 60] (by decide +kernel) (by decide +kernel)
set_option maxRecDepth 20000 in
theorem gX3_goOn_X3_setLamp : GoodIn wsX3_goOn (wsV RX3 92 RX3 yX3_setLamp wsX3_setLamp) := goodIn_app (goodIn_of _ (by decide +kernel)) ggX3_goOn_X3_setLamp
theorem dX3_goOn_0 : decode cX3_goOn 0 = .ok (.aload_n 0, 1) := by decide +kernel
theorem dX3_goOn_1 : decode cX3_goOn 1 = .ok (.iload_n 1, 1) := by decide +kernel
theorem dX3_goOn_2 : decode cX3_goOn 2 = .ok (.iconst 5, 1) := by decide +kernel
theorem dX3_goOn_3 : decode cX3_goOn 3 = .ok (.invokevirtual 99, 3) := by decide +kernel
theorem dX3_goOn_6 : decode cX3_goOn 6 = .ok (.iconst (-1), 1) := by decide +kernel
theorem dX3_goOn_7 : decode cX3_goOn 7 = .ok (.if_icmp .ne 8, 3) := by decide +kernel
theorem dX3_goOn_10 : decode cX3_goOn 10 = .ok (.aload_n 0, 1) := by decide +kernel
theorem dX3_goOn_11 : decode cX3_goOn 11 = .ok (.iload_n 1, 1) := by decide +kernel
theorem dX3_goOn_12 : decode cX3_goOn 12 = .ok (.invokevirtual 133, 3) := by decide +kernel
theorem dX3_goOn_15 : decode cX3_goOn 15 = .ok (.aload_n 0, 1) := by decide +kernel
theorem dX3_goOn_16 : decode cX3_goOn 16 = .ok (.iload_n 1, 1) := by decide +kernel
theorem dX3_goOn_17 : decode cX3_goOn 17 = .ok (.iconst 5, 1) := by decide +kernel
theorem dX3_goOn_18 : decode cX3_goOn 18 = .ok (.invokevirtual 99, 3) := by decide +kernel
theorem dX3_goOn_21 : decode cX3_goOn 21 = .ok (.istore_n 2, 1) := by decide +kernel
theorem dX3_goOn_22 : decode cX3_goOn 22 = .ok (.iload_n 2, 1) := by decide +kernel
theorem dX3_goOn_23 : decode cX3_goOn 23 = .ok (.iconst (-1), 1) := by decide +kernel
theorem dX3_goOn_24 : decode cX3_goOn 24 = .ok (.if_icmp .ne 5, 3) := by decide +kernel
theorem dX3_goOn_27 : decode cX3_goOn 27 = .ok (.iconst (-1), 1) := by decide +kernel
theorem dX3_goOn_28 : decode cX3_goOn 28 = .ok (.ireturn, 1) := by decide +kernel
theorem dX3_goOn_29 : decode cX3_goOn 29 = .ok (.aload_n 0, 1) := by decide +kernel
theorem dX3_goOn_30 : decode cX3_goOn 30 = .ok (.iload_n 1, 1) := by decide +kernel
theorem dX3_goOn_31 : decode cX3_goOn 31 = .ok (.bipush 6, 2) := by decide +kernel
theorem dX3_goOn_33 : decode cX3_goOn 33 = .ok (.aload_n 0, 1) := by decide +kernel
theorem dX3_goOn_34 : decode cX3_goOn 34 = .ok (.iload_n 1, 1) := by decide +kernel
theorem dX3_goOn_35 : decode cX3_goOn 35 = .ok (.bipush 6, 2) := by decide +kernel
theorem dX3_goOn_37 : decode cX3_goOn 37 = .ok (.invokevirtual 99, 3) := by decide +kernel
theorem dX3_goOn_40 : decode cX3_goOn 40 = .ok (.iconst 1, 1) := by decide +kernel
theorem dX3_goOn_41 : decode cX3_goOn 41 = .ok (.isub, 1) := by decide +kernel
theorem dX3_goOn_42 : decode cX3_goOn 42 = .ok (.invokevirtual 102, 3) := by decide +kernel
theorem dX3_goOn_45 : decode cX3_goOn 45 = .ok (.aload_n 0, 1) := by decide +kernel
theorem dX3_goOn_46 : decode cX3_goOn 46 = .ok (.iload_n 1, 1) := by decide +kernel
theorem dX3_goOn_47 : decode cX3_goOn 47 = .ok (.bipush 6, 2) := by decide +kernel
theorem dX3_goOn_49 : decode cX3_goOn 49 = .ok (.invokevirtual 99, 3) := by decide +kernel
theorem dX3_goOn_52 : decode cX3_goOn 52 = .ok (.ifCond .le 5, 3) := by decide +kernel
theorem dX3_goOn_55 : decode cX3_goOn 55 = .ok (.iconst (-1), 1) := by decide +kernel
theorem dX3_goOn_56 : decode cX3_goOn 56 = .ok (.ireturn, 1) := by decide +kernel
theorem dX3_goOn_57 : decode cX3_goOn 57 = .ok (.aload_n 0, 1) := by decide +kernel
theorem dX3_goOn_58 : decode cX3_goOn 58 = .ok (.iload_n 1, 1) := by decide +kernel
theorem dX3_goOn_59 : decode cX3_goOn 59 = .ok (.iconst 1, 1) := by decide +kernel
theorem dX3_goOn_60 : decode cX3_goOn 60 = .ok (.aload_n 0, 1) := by decide +kernel
theorem dX3_goOn_61 : decode cX3_goOn 61 = .ok (.iload_n 1, 1) := by decide +kernel
theorem dX3_goOn_62 : decode cX3_goOn 62 = .ok (.bipush 7, 2) := by decide +kernel
theorem dX3_goOn_64 : decode cX3_goOn 64 = .ok (.invokevirtual 99, 3) := by decide +kernel
theorem dX3_goOn_67 : decode cX3_goOn 67 = .ok (.invokevirtual 102, 3) := by decide +kernel
theorem dX3_goOn_70 : decode cX3_goOn 70 = .ok (.aload_n 0, 1) := by decide +kernel
theorem dX3_goOn_71 : decode cX3_goOn 71 = .ok (.iload_n 1, 1) := by decide +kernel
theorem dX3_goOn_72 : decode cX3_goOn 72 = .ok (.iconst 5, 1) := by decide +kernel
theorem dX3_goOn_73 : decode cX3_goOn 73 = .ok (.iconst (-1), 1) := by decide +kernel
theorem dX3_goOn_74 : decode cX3_goOn 74 = .ok (.invokevirtual 102, 3) := by decide +kernel
theorem dX3_goOn_77 : decode cX3_goOn 77 = .ok (.sipush 300, 3) := by decide +kernel
theorem dX3_goOn_80 : decode cX3_goOn 80 = .ok (.aload_n 0, 1) := by decide +kernel
theorem dX3_goOn_81 : decode cX3_goOn 81 = .ok (.iload_n 2, 1) := by decide +kernel
theorem dX3_goOn_82 : decode cX3_goOn 82 = .ok (.iconst 3, 1) := by decide +kernel
theorem dX3_goOn_83 : decode cX3_goOn 83 = .ok (.invokevirtual 89, 3) := by decide +kernel
theorem dX3_goOn_86 : decode cX3_goOn 86 = .ok (.isub, 1) := by decide +kernel
theorem dX3_goOn_87 : decode cX3_goOn 87 = .ok (.aload_n 0, 1) := by decide +kernel
theorem dX3_goOn_88 : decode cX3_goOn 88 = .ok (.iload_n 1, 1) := by decide +kernel
theorem dX3_goOn_89 : decode cX3_goOn 89 = .ok (.iconst 3, 1) := by decide +kernel
theorem dX3_goOn_90 : decode cX3_goOn 90 = .ok (.invokevirtual 99, 3) := by decide +kernel
theorem dX3_goOn_93 : decode cX3_goOn 93 = .ok (.invokestatic 63, 3) := by decide +kernel
theorem dX3_goOn_96 : decode cX3_goOn 96 = .ok (.istore_n 3, 1) := by decide +kernel
theorem dX3_goOn_97 : decode cX3_goOn 97 = .ok (.aload_n 0, 1) := by decide +kernel
theorem dX3_goOn_98 : decode cX3_goOn 98 = .ok (.iload_n 1, 1) := by decide +kernel
theorem dX3_goOn_99 : decode cX3_goOn 99 = .ok (.iconst 3, 1) := by decide +kernel
theorem dX3_goOn_100 : decode cX3_goOn 100 = .ok (.aload_n 0, 1) := by decide +kernel
theorem dX3_goOn_101 : decode cX3_goOn 101 = .ok (.iload_n 1, 1) := by decide +kernel
theorem dX3_goOn_102 : decode cX3_goOn 102 = .ok (.iconst 3, 1) := by decide +kernel
theorem dX3_goOn_103 : decode cX3_goOn 103 = .ok (.invokevirtual 99, 3) := by decide +kernel
theorem dX3_goOn_106 : decode cX3_goOn 106 = .ok (.iload_n 3, 1) := by decide +kernel
theorem dX3_goOn_107 : decode cX3_goOn 107 = .ok (.isub, 1) := by decide +kernel
theorem dX3_goOn_108 : decode cX3_goOn 108 = .ok (.invokevirtual 102, 3) := by decide +kernel
theorem dX3_goOn_111 : decode cX3_goOn 111 = .ok (.aload_n 0, 1) := by decide +kernel
theorem dX3_goOn_112 : decode cX3_goOn 112 = .ok (.iload_n 2, 1) := by decide +kernel
theorem dX3_goOn_113 : decode cX3_goOn 113 = .ok (.iconst 3, 1) := by decide +kernel
theorem dX3_goOn_114 : decode cX3_goOn 114 = .ok (.aload_n 0, 1) := by decide +kernel
theorem dX3_goOn_115 : decode cX3_goOn 115 = .ok (.iload_n 2, 1) := by decide +kernel
theorem dX3_goOn_116 : decode cX3_goOn 116 = .ok (.iconst 3, 1) := by decide +kernel
theorem dX3_goOn_117 : decode cX3_goOn 117 = .ok (.invokevirtual 89, 3) := by decide +kernel
theorem dX3_goOn_120 : decode cX3_goOn 120 = .ok (.iload_n 3, 1) := by decide +kernel
theorem dX3_goOn_121 : decode cX3_goOn 121 = .ok (.iadd, 1) := by decide +kernel
theorem dX3_goOn_122 : decode cX3_goOn 122 = .ok (.invokevirtual 92, 3) := by decide +kernel
theorem dX3_goOn_125 : decode cX3_goOn 125 = .ok (.aload_n 0, 1) := by decide +kernel
theorem dX3_goOn_126 : decode cX3_goOn 126 = .ok (.iload_n 2, 1) := by decide +kernel
theorem dX3_goOn_127 : decode cX3_goOn 127 = .ok (.iconst 4, 1) := by decide +kernel
theorem dX3_goOn_128 : decode cX3_goOn 128 = .ok (.iconst 0, 1) := by decide +kernel
theorem dX3_goOn_129 : decode cX3_goOn 129 = .ok (.invokevirtual 92, 3) := by decide +kernel
theorem dX3_goOn_132 : decode cX3_goOn 132 = .ok (.aload_n 0, 1) := by decide +kernel
theorem dX3_goOn_133 : decode cX3_goOn 133 = .ok (.iload_n 2, 1) := by decide +kernel
theorem dX3_goOn_134 : decode cX3_goOn 134 = .ok (.iconst 3, 1) := by decide +kernel
theorem dX3_goOn_135 : decode cX3_goOn 135 = .ok (.invokevirtual 89, 3) := by decide +kernel
theorem dX3_goOn_138 : decode cX3_goOn 138 = .ok (.ifCond .le 42, 3) := by decide +kernel
theorem dX3_goOn_141 : decode cX3_goOn 141 = .ok (.aload_n 0, 1) := by decide +kernel
theorem dX3_goOn_142 : decode cX3_goOn 142 = .ok (.iload_n 2, 1) := by decide +kernel
theorem dX3_goOn_143 : decode cX3_goOn 143 = .ok (.iconst 5, 1) := by decide +kernel
theorem dX3_goOn_144 : decode cX3_goOn 144 = .ok (.iconst 1, 1) := by decide +kernel
theorem dX3_goOn_145 : decode cX3_goOn 145 = .ok (.invokevirtual 92, 3) := by decide +kernel
theorem dX3_goOn_148 : decode cX3_goOn 148 = .ok (.aload_n 0, 1) := by decide +kernel
theorem dX3_goOn_149 : decode cX3_goOn 149 = .ok (.iload_n 2, 1) := by decide +kernel
theorem dX3_goOn_150 : decode cX3_goOn 150 = .ok (.bipush 6, 2) := by decide +kernel
theorem dX3_goOn_152 : decode cX3_goOn 152 = .ok (.aload_n 0, 1) := by decide +kernel
theorem dX3_goOn_153 : decode cX3_goOn 153 = .ok (.iload_n 2, 1) := by decide +kernel
theorem dX3_goOn_154 : decode cX3_goOn 154 = .ok (.bipush 6, 2) := by decide +kernel
theorem dX3_goOn_156 : decode cX3_goOn 156 = .ok (.invokevirtual 89, 3) := by decide +kernel
theorem dX3_goOn_159 : decode cX3_goOn 159 = .ok (.iconst 1, 1) := by decide +kernel
theorem dX3_goOn_160 : decode cX3_goOn 160 = .ok (.iadd, 1) := by decide +kernel
theorem dX3_goOn_161 : decode cX3_goOn 161 = .ok (.invokevirtual 92, 3) := by decide +kernel
theorem dX3_goOn_164 : decode cX3_goOn 164 = .ok (.aload_n 0, 1) := by decide +kernel
theorem dX3_goOn_165 : decode cX3_goOn 165 = .ok (.iload_n 1, 1) := by decide +kernel
theorem dX3_goOn_166 : decode cX3_goOn 166 = .ok (.bipush 9, 2) := by decide +kernel
theorem dX3_goOn_168 : decode cX3_goOn 168 = .ok (.aload_n 0, 1) := by decide +kernel
theorem dX3_goOn_169 : decode cX3_goOn 169 = .ok (.iload_n 1, 1) := by decide +kernel
theorem dX3_goOn_170 : decode cX3_goOn 170 = .ok (.bipush 9, 2) := by decide +kernel
theorem dX3_goOn_172 : decode cX3_goOn 172 = .ok (.invokevirtual 99, 3) := by decide +kernel
theorem dX3_goOn_175 : decode cX3_goOn 175 = .ok (.iconst 1, 1) := by decide +kernel
theorem dX3_goOn_176 : decode cX3_goOn 176 = .ok (.iadd, 1) := by decide +kernel
theorem dX3_goOn_177 : decode cX3_goOn 177 = .ok (.invokevirtual 102, 3) := by decide +kernel
theorem dX3_goOn_180 : decode cX3_goOn 180 = .ok (.iload_n 2, 1) := by decide +kernel
theorem dX3_goOn_181 : decode cX3_goOn 181 = .ok (.ireturn, 1) := by decide +kernel
set_option maxRecDepth 20000 in
theorem ggX3_gust_X3_la : GoodIn wsX3_gust wsX3_la := goodIn_r _ [10, 11, 17, 18, 19, 20, 21, 22, 23, 24, 25, 26, 27, 28, 29] (by decide +kernel) (by decide +kernel)
set_option maxRecDepth 20000 in
theorem gX3_gust_X3_la : GoodIn wsX3_gust (wsV RX3 89 RX3 yX3_la wsX3_la) := goodIn_app (goodIn_of _ (by decide +kernel)) ggX3_gust_X3_la
set_option maxRecDepth 20000 in
theorem ggX3_gust_X3_ro : GoodIn wsX3_gust wsX3_ro := goodIn_r _ [15, 16, 17, 18, 19, 20, 21, 22, 23, 24, 25, 26, 27, 28, 29] (by decide +kernel) (by decide +kernel)
set_option maxRecDepth 20000 in
theorem gX3_gust_X3_ro : GoodIn wsX3_gust (wsV RX3 54 RX3 yX3_ro wsX3_ro) := goodIn_app (goodIn_of _ (by decide +kernel)) ggX3_gust_X3_ro
theorem dX3_gust_0 : decode cX3_gust 0 = .ok (.iload_n 2, 1) := by decide +kernel
theorem dX3_gust_1 : decode cX3_gust 1 = .ok (.aload_n 0, 1) := by decide +kernel
theorem dX3_gust_2 : decode cX3_gust 2 = .ok (.getfield 9, 3) := by decide +kernel
theorem dX3_gust_5 : decode cX3_gust 5 = .ok (.aload_n 0, 1) := by decide +kernel
theorem dX3_gust_6 : decode cX3_gust 6 = .ok (.aload_n 0, 1) := by decide +kernel
theorem dX3_gust_7 : decode cX3_gust 7 = .ok (.iload_n 1, 1) := by decide +kernel
theorem dX3_gust_8 : decode cX3_gust 8 = .ok (.iconst 0, 1) := by decide +kernel
theorem dX3_gust_9 : decode cX3_gust 9 = .ok (.invokevirtual 89, 3) := by decide +kernel
theorem dX3_gust_12 : decode cX3_gust 12 = .ok (.iconst 0, 1) := by decide +kernel
theorem dX3_gust_13 : decode cX3_gust 13 = .ok (.invokevirtual 54, 3) := by decide +kernel
theorem dX3_gust_16 : decode cX3_gust 16 = .ok (.iaload, 1) := by decide +kernel
theorem dX3_gust_17 : decode cX3_gust 17 = .ok (.aload_n 0, 1) := by decide +kernel
theorem dX3_gust_18 : decode cX3_gust 18 = .ok (.getfield 9, 3) := by decide +kernel
theorem dX3_gust_21 : decode cX3_gust 21 = .ok (.aload_n 0, 1) := by decide +kernel
theorem dX3_gust_22 : decode cX3_gust 22 = .ok (.aload_n 0, 1) := by decide +kernel
theorem dX3_gust_23 : decode cX3_gust 23 = .ok (.iload_n 1, 1) := by decide +kernel
theorem dX3_gust_24 : decode cX3_gust 24 = .ok (.iconst 0, 1) := by decide +kernel
theorem dX3_gust_25 : decode cX3_gust 25 = .ok (.invokevirtual 89, 3) := by decide +kernel
theorem dX3_gust_28 : decode cX3_gust 28 = .ok (.iconst 1, 1) := by decide +kernel
theorem dX3_gust_29 : decode cX3_gust 29 = .ok (.invokevirtual 54, 3) := by decide +kernel
theorem dX3_gust_32 : decode cX3_gust 32 = .ok (.iaload, 1) := by decide +kernel
theorem dX3_gust_33 : decode cX3_gust 33 = .ok (.invokestatic 58, 3) := by decide +kernel
theorem dX3_gust_36 : decode cX3_gust 36 = .ok (.bipush 10, 2) := by decide +kernel
theorem dX3_gust_38 : decode cX3_gust 38 = .ok (.idiv, 1) := by decide +kernel
theorem dX3_gust_39 : decode cX3_gust 39 = .ok (.iadd, 1) := by decide +kernel
theorem dX3_gust_40 : decode cX3_gust 40 = .ok (.ireturn, 1) := by decide +kernel
set_option maxRecDepth 20000 in
theorem ggX3_burn_X3_la : GoodIn wsX3_burn wsX3_la := goodIn_r _ [11, 12, 30, 31, 32, 33, 34, 35, 36, 37, 38, 39, 40, 41, 42] (by decide +kernel) (by decide +kernel)
set_option maxRecDepth 20000 in
theorem gX3_burn_X3_la : GoodIn wsX3_burn (wsV RX3 89 RX3 yX3_la wsX3_la) := goodIn_app (goodIn_of _ (by decide +kernel)) ggX3_burn_X3_la
set_option maxRecDepth 20000 in
theorem ggX3_burn_X3_setLamp : GoodIn wsX3_burn wsX3_setLamp := goodIn_r _ [16, 12, 30, 31, 32, 33, 34, 35, 36, 37, 38, 39, 40, 41, 42] (by decide +kernel) (by decide +kernel)
set_option maxRecDepth 20000 in
theorem gX3_burn_X3_setLamp : GoodIn wsX3_burn (wsV RX3 92 RX3 yX3_setLamp wsX3_setLamp) := goodIn_app (goodIn_of _ (by decide +kernel)) ggX3_burn_X3_setLamp
set_option maxRecDepth 20000 in
theorem ggX3_burn_X3_gust : GoodIn wsX3_burn wsX3_gust := goodIn_r _ [20, 21, 22, 23, 3, 24, 7, 8, 9, 10, 11, 12, 25, 26, 27, 28, 29, 30, 31, 32, 33, 34, 35, 36, 37, 38, 39, 40, 41, 42] (by decide +kernel) (by decide +kernel)
set_option maxRecDepth 20000 in
theorem gX3_burn_X3_gust : GoodIn wsX3_burn (wsV RX3 137 RX3 yX3_gust wsX3_gust) := goodIn_app (goodIn_of _ (by decide +kernel)) ggX3_burn_X3_gust
theorem dX3_burn_0 : decode cX3_burn 0 = .ok (.aload_n 0, 1) := by decide +kernel
theorem dX3_burn_1 : decode cX3_burn 1 = .ok (.iload_n 1, 1) := by decide +kernel
theorem dX3_burn_2 : decode cX3_burn 2 = .ok (.iconst 5, 1) := by decide +kernel
theorem dX3_burn_3 : decode cX3_burn 3 = .ok (.invokevirtual 89, 3) := by decide +kernel
theorem dX3_burn_6 : decode cX3_burn 6 = .ok (.ifCond .ne 4, 3) := by decide +kernel
theorem dX3_burn_9 : decode cX3_burn 9 = .ok (.return_, 1) := by decide +kernel
theorem dX3_burn_10 : decode cX3_burn 10 = .ok (.aload_n 0, 1) := by decide +kernel
theorem dX3_burn_11 : decode cX3_burn 11 = .ok (.iload_n 1, 1) := by decide +kernel
theorem dX3_burn_12 : decode cX3_burn 12 = .ok (.iconst 3, 1) := by decide +kernel
theorem dX3_burn_13 : decode cX3_burn 13 = .ok (.invokevirtual 89, 3) := by decide +kernel
theorem dX3_burn_16 : decode cX3_burn 16 = .ok (.aload_n 0, 1) := by decide +kernel
theorem dX3_burn_17 : decode cX3_burn 17 = .ok (.iload_n 1, 1) := by decide +kernel
theorem dX3_burn_18 : decode cX3_burn 18 = .ok (.iconst 4, 1) := by decide +kernel
theorem dX3_burn_19 : decode cX3_burn 19 = .ok (.invokevirtual 89, 3) := by decide +kernel
theorem dX3_burn_22 : decode cX3_burn 22 = .ok (.iconst 5, 1) := by decide +kernel
theorem dX3_burn_23 : decode cX3_burn 23 = .ok (.if_icmp .lt 7, 3) := by decide +kernel
theorem dX3_burn_26 : decode cX3_burn 26 = .ok (.iconst 2, 1) := by decide +kernel
theorem dX3_burn_27 : decode cX3_burn 27 = .ok (.goto 4, 3) := by decide +kernel
theorem dX3_burn_30 : decode cX3_burn 30 = .ok (.iconst 1, 1) := by decide +kernel
theorem dX3_burn_31 : decode cX3_burn 31 = .ok (.invokestatic 63, 3) := by decide +kernel
theorem dX3_burn_34 : decode cX3_burn 34 = .ok (.istore_n 2, 1) := by decide +kernel
theorem dX3_burn_35 : decode cX3_burn 35 = .ok (.aload_n 0, 1) := by decide +kernel
theorem dX3_burn_36 : decode cX3_burn 36 = .ok (.iload_n 1, 1) := by decide +kernel
theorem dX3_burn_37 : decode cX3_burn 37 = .ok (.iconst 3, 1) := by decide +kernel
theorem dX3_burn_38 : decode cX3_burn 38 = .ok (.aload_n 0, 1) := by decide +kernel
theorem dX3_burn_39 : decode cX3_burn 39 = .ok (.iload_n 1, 1) := by decide +kernel
theorem dX3_burn_40 : decode cX3_burn 40 = .ok (.iconst 3, 1) := by decide +kernel
theorem dX3_burn_41 : decode cX3_burn 41 = .ok (.invokevirtual 89, 3) := by decide +kernel
theorem dX3_burn_44 : decode cX3_burn 44 = .ok (.iload_n 2, 1) := by decide +kernel
theorem dX3_burn_45 : decode cX3_burn 45 = .ok (.isub, 1) := by decide +kernel
theorem dX3_burn_46 : decode cX3_burn 46 = .ok (.invokevirtual 92, 3) := by decide +kernel
theorem dX3_burn_49 : decode cX3_burn 49 = .ok (.aload_n 0, 1) := by decide +kernel
theorem dX3_burn_50 : decode cX3_burn 50 = .ok (.getfield 31, 3) := by decide +kernel
theorem dX3_burn_53 : decode cX3_burn 53 = .ok (.iconst 2, 1) := by decide +kernel
theorem dX3_burn_54 : decode cX3_burn 54 = .ok (.dup2, 1) := by decide +kernel
theorem dX3_burn_55 : decode cX3_burn 55 = .ok (.iaload, 1) := by decide +kernel
theorem dX3_burn_56 : decode cX3_burn 56 = .ok (.iload_n 2, 1) := by decide +kernel
theorem dX3_burn_57 : decode cX3_burn 57 = .ok (.iadd, 1) := by decide +kernel
theorem dX3_burn_58 : decode cX3_burn 58 = .ok (.iastore, 1) := by decide +kernel
theorem dX3_burn_59 : decode cX3_burn 59 = .ok (.aload_n 0, 1) := by decide +kernel
theorem dX3_burn_60 : decode cX3_burn 60 = .ok (.iload_n 1, 1) := by decide +kernel
theorem dX3_burn_61 : decode cX3_burn 61 = .ok (.iconst 3, 1) := by decide +kernel
theorem dX3_burn_62 : decode cX3_burn 62 = .ok (.invokevirtual 89, 3) := by decide +kernel
theorem dX3_burn_65 : decode cX3_burn 65 = .ok (.ifCond .ne 13, 3) := by decide +kernel
theorem dX3_burn_68 : decode cX3_burn 68 = .ok (.aload_n 0, 1) := by decide +kernel
theorem dX3_burn_69 : decode cX3_burn 69 = .ok (.iload_n 1, 1) := by decide +kernel
theorem dX3_burn_70 : decode cX3_burn 70 = .ok (.iconst 5, 1) := by decide +kernel
theorem dX3_burn_71 : decode cX3_burn 71 = .ok (.iconst 0, 1) := by decide +kernel
theorem dX3_burn_72 : decode cX3_burn 72 = .ok (.invokevirtual 92, 3) := by decide +kernel
theorem dX3_burn_75 : decode cX3_burn 75 = .ok (.goto 34, 3) := by decide +kernel
theorem dX3_burn_78 : decode cX3_burn 78 = .ok (.aload_n 0, 1) := by decide +kernel
theorem dX3_burn_79 : decode cX3_burn 79 = .ok (.getfield 31, 3) := by decide +kernel
theorem dX3_burn_82 : decode cX3_burn 82 = .ok (.iconst 0, 1) := by decide +kernel
theorem dX3_burn_83 : decode cX3_burn 83 = .ok (.iaload, 1) := by decide +kernel
theorem dX3_burn_84 : decode cX3_burn 84 = .ok (.bipush 30, 2) := by decide +kernel
theorem dX3_burn_86 : decode cX3_burn 86 = .ok (.irem, 1) := by decide +kernel
theorem dX3_burn_87 : decode cX3_burn 87 = .ok (.ifCond .ne 22, 3) := by decide +kernel
theorem dX3_burn_90 : decode cX3_burn 90 = .ok (.aload_n 0, 1) := by decide +kernel
theorem dX3_burn_91 : decode cX3_burn 91 = .ok (.iload_n 1, 1) := by decide +kernel
theorem dX3_burn_92 : decode cX3_burn 92 = .ok (.iconst 4, 1) := by decide +kernel
theorem dX3_burn_93 : decode cX3_burn 93 = .ok (.bipush 9, 2) := by decide +kernel
theorem dX3_burn_95 : decode cX3_burn 95 = .ok (.aload_n 0, 1) := by decide +kernel
theorem dX3_burn_96 : decode cX3_burn 96 = .ok (.iload_n 1, 1) := by decide +kernel
theorem dX3_burn_97 : decode cX3_burn 97 = .ok (.iconst 4, 1) := by decide +kernel
theorem dX3_burn_98 : decode cX3_burn 98 = .ok (.invokevirtual 89, 3) := by decide +kernel
theorem dX3_burn_101 : decode cX3_burn 101 = .ok (.iconst 1, 1) := by decide +kernel
theorem dX3_burn_102 : decode cX3_burn 102 = .ok (.iadd, 1) := by decide +kernel
theorem dX3_burn_103 : decode cX3_burn 103 = .ok (.invokestatic 63, 3) := by decide +kernel
theorem dX3_burn_106 : decode cX3_burn 106 = .ok (.invokevirtual 92, 3) := by decide +kernel
theorem dX3_burn_109 : decode cX3_burn 109 = .ok (.aload_n 0, 1) := by decide +kernel
theorem dX3_burn_110 : decode cX3_burn 110 = .ok (.iload_n 1, 1) := by decide +kernel
theorem dX3_burn_111 : decode cX3_burn 111 = .ok (.iconst 5, 1) := by decide +kernel
theorem dX3_burn_112 : decode cX3_burn 112 = .ok (.invokevirtual 89, 3) := by decide +kernel
theorem dX3_burn_115 : decode cX3_burn 115 = .ok (.ifCond .eq 45, 3) := by decide +kernel
theorem dX3_burn_118 : decode cX3_burn 118 = .ok (.aload_n 0, 1) := by decide +kernel
theorem dX3_burn_119 : decode cX3_burn 119 = .ok (.getfield 31, 3) := by decide +kernel
theorem dX3_burn_122 : decode cX3_burn 122 = .ok (.iconst 0, 1) := by decide +kernel
theorem dX3_burn_123 : decode cX3_burn 123 = .ok (.iaload, 1) := by decide +kernel
theorem dX3_burn_124 : decode cX3_burn 124 = .ok (.bipush 10, 2) := by decide +kernel
theorem dX3_burn_126 : decode cX3_burn 126 = .ok (.irem, 1) := by decide +kernel
theorem dX3_burn_127 : decode cX3_burn 127 = .ok (.ifCond .ne 33, 3) := by decide +kernel
theorem dX3_burn_130 : decode cX3_burn 130 = .ok (.aload_n 0, 1) := by decide +kernel
theorem dX3_burn_131 : decode cX3_burn 131 = .ok (.iload_n 1, 1) := by decide +kernel
theorem dX3_burn_132 : decode cX3_burn 132 = .ok (.aload_n 0, 1) := by decide +kernel
theorem dX3_burn_133 : decode cX3_burn 133 = .ok (.getfield 28, 3) := by decide +kernel
theorem dX3_burn_136 : decode cX3_burn 136 = .ok (.aload_n 0, 1) := by decide +kernel
theorem dX3_burn_137 : decode cX3_burn 137 = .ok (.getfield 31, 3) := by decide +kernel
theorem dX3_burn_140 : decode cX3_burn 140 = .ok (.iconst 0, 1) := by decide +kernel
theorem dX3_burn_141 : decode cX3_burn 141 = .ok (.iaload, 1) := by decide +kernel
theorem dX3_burn_142 : decode cX3_burn 142 = .ok (.bipush 60, 2) := by decide +kernel
theorem dX3_burn_144 : decode cX3_burn 144 = .ok (.idiv, 1) := by decide +kernel
theorem dX3_burn_145 : decode cX3_burn 145 = .ok (.iaload, 1) := by decide +kernel
theorem dX3_burn_146 : decode cX3_burn 146 = .ok (.invokevirtual 137, 3) := by decide +kernel
theorem dX3_burn_149 : decode cX3_burn 149 = .ok (.aload_n 0, 1) := by decide +kernel
theorem dX3_burn_150 : decode cX3_burn 150 = .ok (.iload_n 1, 1) := by decide +kernel
theorem dX3_burn_151 : decode cX3_burn 151 = .ok (.iconst 2, 1) := by decide +kernel
theorem dX3_burn_152 : decode cX3_burn 152 = .ok (.invokevirtual 89, 3) := by decide +kernel
theorem dX3_burn_155 : decode cX3_burn 155 = .ok (.iconst 4, 1) := by decide +kernel
theorem dX3_burn_156 : decode cX3_burn 156 = .ok (.iadd, 1) := by decide +kernel
theorem dX3_burn_157 : decode cX3_burn 157 = .ok (.if_icmp .gt 4, 3) := by decide +kernel
theorem dX3_burn_160 : decode cX3_burn 160 = .ok (.return_, 1) := by decide +kernel
theorem dX3_burn_161 : decode cX3_burn 161 = .ok (.aload_n 0, 1) := by decide +kernel
theorem dX3_burn_162 : decode cX3_burn 162 = .ok (.iload_n 1, 1) := by decide +kernel
theorem dX3_burn_163 : decode cX3_burn 163 = .ok (.iconst 5, 1) := by decide +kernel
theorem dX3_burn_164 : decode cX3_burn 164 = .ok (.iconst 0, 1) := by decide +kernel
theorem dX3_burn_165 : decode cX3_burn 165 = .ok (.invokevirtual 92, 3) := by decide +kernel
theorem dX3_burn_168 : decode cX3_burn 168 = .ok (.aload_n 0, 1) := by decide +kernel
theorem dX3_burn_169 : decode cX3_burn 169 = .ok (.iload_n 1, 1) := by decide +kernel
theorem dX3_burn_170 : decode cX3_burn 170 = .ok (.bipush 7, 2) := by decide +kernel
theorem dX3_burn_172 : decode cX3_burn 172 = .ok (.aload_n 0, 1) := by decide +kernel
theorem dX3_burn_173 : decode cX3_burn 173 = .ok (.iload_n 1, 1) := by decide +kernel
theorem dX3_burn_174 : decode cX3_burn 174 = .ok (.bipush 7, 2) := by decide +kernel
theorem dX3_burn_176 : decode cX3_burn 176 = .ok (.invokevirtual 89, 3) := by decide +kernel
theorem dX3_burn_179 : decode cX3_burn 179 = .ok (.iconst 1, 1) := by decide +kernel
theorem dX3_burn_180 : decode cX3_burn 180 = .ok (.iadd, 1) := by decide +kernel
theorem dX3_burn_181 : decode cX3_burn 181 = .ok (.invokevirtual 92, 3) := by decide +kernel
theorem dX3_burn_184 : decode cX3_burn 184 = .ok (.return_, 1) := by decide +kernel
theorem dX3_isOver_0 : decode cX3_isOver 0 = .ok (.aload_n 0, 1) := by decide +kernel
theorem dX3_isOver_1 : decode cX3_isOver 1 = .ok (.getfield 31, 3) := by decide +kernel
theorem dX3_isOver_4 : decode cX3_isOver 4 = .ok (.iconst 0, 1) := by decide +kernel
theorem dX3_isOver_5 : decode cX3_isOver 5 = .ok (.iaload, 1) := by decide +kernel
theorem dX3_isOver_6 : decode cX3_isOver 6 = .ok (.sipush 600, 3) := by decide +kernel
theorem dX3_isOver_9 : decode cX3_isOver 9 = .ok (.if_icmp .ne 7, 3) := by decide +kernel
theorem dX3_isOver_12 : decode cX3_isOver 12 = .ok (.iconst 1, 1) := by decide +kernel
theorem dX3_isOver_13 : decode cX3_isOver 13 = .ok (.goto 4, 3) := by decide +kernel
theorem dX3_isOver_16 : decode cX3_isOver 16 = .ok (.iconst 0, 1) := by decide +kernel
theorem dX3_isOver_17 : decode cX3_isOver 17 = .ok (.ireturn, 1) := by decide +kernel
set_option maxRecDepth 20000 in
theorem ggX3_minuteOn_X3_goOn : GoodIn wsX3_minuteOn wsX3_goOn := goodIn_r _ [8, 9, 10, 11, 12, 13, 14, 15, 7, 16, 17, 18, 19, 20, 21, 22, 23, 24, 25, 26, 27, 28, 29, 30, 31, 1, 32, 33, 34, 35, 36, 37, 38, 39, 40, 41, 42, 43, 44, 45, 46, 47, 48, 49, 50, 51, 52, 53, 67, 68, 69, 70, 71, 72, 73, 74, 75, 76, 77, 78, 79] (by decide +kernel) (by decide +kernel)
set_option maxRecDepth 20000 in
theorem gX3_minuteOn_X3_goOn : GoodIn wsX3_minuteOn (wsV RX3 140 RX3 yX3_goOn wsX3_goOn) := goodIn_app (goodIn_of _ (by decide +kernel)) ggX3_minuteOn_X3_goOn
set_option maxRecDepth 20000 in
theorem ggX3_minuteOn_X3_burn : GoodIn wsX3_minuteOn wsX3_burn := goodIn_r _ [57, 9, 10, 11, 12, 3, 58, 23, 24, 25, 7, 26, 27, 50, 51, 52, 53, 59, 60, 61, 62, 63, 64, 65, 66, 36, 37, 38, 39, 40, 67, 68, 69, 70, 71, 72, 73, 74, 75, 76, 77, 78, 79] (by decide +kernel) (by decide +kernel)
set_option maxRecDepth 20000 in
theorem gX3_minuteOn_X3_burn : GoodIn wsX3_minuteOn (wsV RX3 143 RX3 yX3_burn wsX3_burn) := goodIn_app (goodIn_of _ (by decide +kernel)) ggX3_minuteOn_X3_burn
theorem dX3_minuteOn_0 : decode cX3_minuteOn 0 = .ok (.iconst 0, 1) := by decide +kernel
theorem dX3_minuteOn_1 : decode cX3_minuteOn 1 = .ok (.istore_n 1, 1) := by decide +kernel
theorem dX3_minuteOn_2 : decode cX3_minuteOn 2 = .ok (.iconst 0, 1) := by decide +kernel
theorem dX3_minuteOn_3 : decode cX3_minuteOn 3 = .ok (.istore_n 2, 1) := by decide +kernel
theorem dX3_minuteOn_4 : decode cX3_minuteOn 4 = .ok (.iload_n 2, 1) := by decide +kernel
theorem dX3_minuteOn_5 : decode cX3_minuteOn 5 = .ok (.aload_n 0, 1) := by decide +kernel
theorem dX3_minuteOn_6 : decode cX3_minuteOn 6 = .ok (.getfield 51, 3) := by decide +kernel
theorem dX3_minuteOn_9 : decode cX3_minuteOn 9 = .ok (.if_icmp .ge 30, 3) := by decide +kernel
theorem dX3_minuteOn_12 : decode cX3_minuteOn 12 = .ok (.aload_n 0, 1) := by decide +kernel
theorem dX3_minuteOn_13 : decode cX3_minuteOn 13 = .ok (.iload_n 2, 1) := by decide +kernel
theorem dX3_minuteOn_14 : decode cX3_minuteOn 14 = .ok (.invokevirtual 140, 3) := by decide +kernel
theorem dX3_minuteOn_17 : decode cX3_minuteOn 17 = .ok (.istore_n 3, 1) := by decide +kernel
theorem dX3_minuteOn_18 : decode cX3_minuteOn 18 = .ok (.iload_n 1, 1) := by decide +kernel
theorem dX3_minuteOn_19 : decode cX3_minuteOn 19 = .ok (.iload_n 3, 1) := by decide +kernel
theorem dX3_minuteOn_20 : decode cX3_minuteOn 20 = .ok (.iconst (-1), 1) := by decide +kernel
theorem dX3_minuteOn_21 : decode cX3_minuteOn 21 = .ok (.if_icmp .ne 7, 3) := by decide +kernel
theorem dX3_minuteOn_24 : decode cX3_minuteOn 24 = .ok (.iconst 0, 1) := by decide +kernel
theorem dX3_minuteOn_25 : decode cX3_minuteOn 25 = .ok (.goto 6, 3) := by decide +kernel
theorem dX3_minuteOn_28 : decode cX3_minuteOn 28 = .ok (.iconst 1, 1) := by decide +kernel
theorem dX3_minuteOn_29 : decode cX3_minuteOn 29 = .ok (.iload_n 3, 1) := by decide +kernel
theorem dX3_minuteOn_30 : decode cX3_minuteOn 30 = .ok (.ishl, 1) := by decide +kernel
theorem dX3_minuteOn_31 : decode cX3_minuteOn 31 = .ok (.ior, 1) := by decide +kernel
theorem dX3_minuteOn_32 : decode cX3_minuteOn 32 = .ok (.istore_n 1, 1) := by decide +kernel
theorem dX3_minuteOn_33 : decode cX3_minuteOn 33 = .ok (.iinc 2 1, 3) := by decide +kernel
theorem dX3_minuteOn_36 : decode cX3_minuteOn 36 = .ok (.goto (-32), 3) := by decide +kernel
theorem dX3_minuteOn_39 : decode cX3_minuteOn 39 = .ok (.iconst 0, 1) := by decide +kernel
theorem dX3_minuteOn_40 : decode cX3_minuteOn 40 = .ok (.istore_n 2, 1) := by decide +kernel
theorem dX3_minuteOn_41 : decode cX3_minuteOn 41 = .ok (.iload_n 2, 1) := by decide +kernel
theorem dX3_minuteOn_42 : decode cX3_minuteOn 42 = .ok (.aload_n 0, 1) := by decide +kernel
theorem dX3_minuteOn_43 : decode cX3_minuteOn 43 = .ok (.getfield 48, 3) := by decide +kernel
theorem dX3_minuteOn_46 : decode cX3_minuteOn 46 = .ok (.if_icmp .ge 14, 3) := by decide +kernel
theorem dX3_minuteOn_49 : decode cX3_minuteOn 49 = .ok (.aload_n 0, 1) := by decide +kernel
theorem dX3_minuteOn_50 : decode cX3_minuteOn 50 = .ok (.iload_n 2, 1) := by decide +kernel
theorem dX3_minuteOn_51 : decode cX3_minuteOn 51 = .ok (.invokevirtual 143, 3) := by decide +kernel
theorem dX3_minuteOn_54 : decode cX3_minuteOn 54 = .ok (.iinc 2 1, 3) := by decide +kernel
theorem dX3_minuteOn_57 : decode cX3_minuteOn 57 = .ok (.goto (-16), 3) := by decide +kernel
theorem dX3_minuteOn_60 : decode cX3_minuteOn 60 = .ok (.aload_n 0, 1) := by decide +kernel
theorem dX3_minuteOn_61 : decode cX3_minuteOn 61 = .ok (.getfield 31, 3) := by decide +kernel
theorem dX3_minuteOn_64 : decode cX3_minuteOn 64 = .ok (.iconst 0, 1) := by decide +kernel
theorem dX3_minuteOn_65 : decode cX3_minuteOn 65 = .ok (.dup2, 1) := by decide +kernel
theorem dX3_minuteOn_66 : decode cX3_minuteOn 66 = .ok (.iaload, 1) := by decide +kernel
theorem dX3_minuteOn_67 : decode cX3_minuteOn 67 = .ok (.iconst 1, 1) := by decide +kernel
theorem dX3_minuteOn_68 : decode cX3_minuteOn 68 = .ok (.iadd, 1) := by decide +kernel
theorem dX3_minuteOn_69 : decode cX3_minuteOn 69 = .ok (.iastore, 1) := by decide +kernel
theorem dX3_minuteOn_70 : decode cX3_minuteOn 70 = .ok (.iload_n 1, 1) := by decide +kernel
theorem dX3_minuteOn_71 : decode cX3_minuteOn 71 = .ok (.ireturn, 1) := by decide +kernel
set_option maxRecDepth 20000 in
theorem ggX3_minutesOn_X3_isOver : GoodIn wsX3_minutesOn wsX3_isOver := goodIn_r _ [5, 6, 75, 76, 77, 78, 79, 80, 81, 82, 83, 84, 85, 86, 87] (by decide +kernel) (by decide +kernel)
set_option maxRecDepth 20000 in
theorem gX3_minutesOn_X3_isOver : GoodIn wsX3_minutesOn (wsV RX3 146 RX3 yX3_isOver wsX3_isOver) := goodIn_app (goodIn_of _ (by decide +kernel)) ggX3_minutesOn_X3_isOver
set_option maxRecDepth 20000 in
theorem ggX3_minutesOn_X3_minuteOn : GoodIn wsX3_minutesOn wsX3_minuteOn := goodIn_r _ [10, 11, 12, 6, 13, 14, 15, 4, 16, 17, 18, 19, 20, 21, 22, 23, 24, 25, 26, 27, 28, 29, 30, 31, 32, 33, 34, 35, 36, 37, 38, 39, 40, 41, 42, 43, 44, 45, 46, 47, 48, 49, 50, 51, 52, 53, 54, 55, 56, 57, 58, 59, 60, 61, 62, 63, 64, 65, 66, 67, 68, 69, 70, 71, 72, 73, 74, 75, 76, 77, 78, 79, 80, 81, 82, 83, 84, 85, 86, 87] (by decide +kernel) (by decide +kernel)
set_option maxRecDepth 20000 in
theorem gX3_minutesOn_X3_minuteOn : GoodIn wsX3_minutesOn (wsV RX3 150 RX3 yX3_minuteOn wsX3_minuteOn) := goodIn_app (goodIn_of _ (by decide +kernel)) ggX3_minutesOn_X3_minuteOn
theorem dX3_minutesOn_0 : decode cX3_minutesOn 0 = .ok (.iconst 0, 1) := by decide +kernel
theorem dX3_minutesOn_1 : decode cX3_minutesOn 1 = .ok (.istore_n 2, 1) := by decide +kernel
theorem dX3_minutesOn_2 : decode cX3_minutesOn 2 = .ok (.iload_n 2, 1) := by decide +kernel
theorem dX3_minutesOn_3 : decode cX3_minutesOn 3 = .ok (.iload_n 1, 1) := by decide +kernel
theorem dX3_minutesOn_4 : decode cX3_minutesOn 4 = .ok (.if_icmp .ge 21, 3) := by decide +kernel
theorem dX3_minutesOn_7 : decode cX3_minutesOn 7 = .ok (.aload_n 0, 1) := by decide +kernel
theorem dX3_minutesOn_8 : decode cX3_minutesOn 8 = .ok (.invokevirtual 146, 3) := by decide +kernel
theorem dX3_minutesOn_11 : decode cX3_minutesOn 11 = .ok (.ifCond .ne 14, 3) := by decide +kernel
theorem dX3_minutesOn_14 : decode cX3_minutesOn 14 = .ok (.aload_n 0, 1) := by decide +kernel
theorem dX3_minutesOn_15 : decode cX3_minutesOn 15 = .ok (.invokevirtual 150, 3) := by decide +kernel
theorem dX3_minutesOn_18 : decode cX3_minutesOn 18 = .ok (.pop, 1) := by decide +kernel
theorem dX3_minutesOn_19 : decode cX3_minutesOn 19 = .ok (.iinc 2 1, 3) := by decide +kernel
theorem dX3_minutesOn_22 : decode cX3_minutesOn 22 = .ok (.goto (-20), 3) := by decide +kernel
theorem dX3_minutesOn_25 : decode cX3_minutesOn 25 = .ok (.return_, 1) := by decide +kernel
set_option maxRecDepth 20000 in
theorem ggX3_pass_X3_isIn : GoodIn wsX3_pass wsX3_isIn := goodIn_r _ [5] (by decide +kernel) (by decide +kernel)
set_option maxRecDepth 20000 in
theorem gX3_pass_X3_isIn : GoodIn wsX3_pass (va_wsS RX3 41 yX3_isIn wsX3_isIn) := goodIn_app (goodIn_of _ (by decide +kernel)) ggX3_pass_X3_isIn
set_option maxRecDepth 20000 in
theorem ggX3_pass_X3_fail : GoodIn wsX3_pass wsX3_fail := goodIn_r _ [9, 1, 91, 92, 93, 94, 95, 96, 97, 98, 99, 100, 101, 102, 103] (by decide +kernel) (by decide +kernel)
set_option maxRecDepth 20000 in
theorem gX3_pass_X3_fail : GoodIn wsX3_pass (wsV RX3 66 RX3 yX3_fail wsX3_fail) := goodIn_app (goodIn_of _ (by decide +kernel)) ggX3_pass_X3_fail
set_option maxRecDepth 20000 in
theorem ggX3_pass_X3_all : GoodIn wsX3_pass wsX3_all := goodIn_r _ [13, 14, 15, 16, 17, 4, 18, 19, 91, 92, 93, 94, 95, 96, 97, 98, 99, 100, 101, 102, 103] (by decide +kernel) (by decide +kernel)
set_option maxRecDepth 20000 in
theorem gX3_pass_X3_all : GoodIn wsX3_pass (wsV RX3 120 RX3 yX3_all wsX3_all) := goodIn_app (goodIn_of _ (by decide +kernel)) ggX3_pass_X3_all
set_option maxRecDepth 20000 in
theorem ggX3_pass_X3_minutesOn : GoodIn wsX3_pass wsX3_minutesOn := goodIn_r _ [23, 24, 25, 26, 4, 27, 28, 29, 30, 31, 32, 33, 14, 34, 35, 36, 37, 38, 39, 40, 41, 42, 43, 44, 45, 46, 47, 48, 49, 50, 51, 15, 16, 17, 18, 19, 52, 53, 54, 55, 56, 57, 58, 59, 60, 61, 62, 63, 64, 65, 66, 67, 68, 69, 70, 71, 72, 73, 74, 75, 76, 77, 78, 79, 80, 81, 82, 83, 84, 85, 86, 87, 88, 89, 90, 91, 92, 93, 94, 95, 96, 97, 98, 99, 100, 101, 102, 103] (by decide +kernel) (by decide +kernel)
set_option maxRecDepth 20000 in
theorem gX3_pass_X3_minutesOn : GoodIn wsX3_pass (wsV RX3 153 RX3 yX3_minutesOn wsX3_minutesOn) := goodIn_app (goodIn_of _ (by decide +kernel)) ggX3_pass_X3_minutesOn
theorem dX3_pass_0 : decode cX3_pass 0 = .ok (.aload_n 0, 1) := by decide +kernel
theorem dX3_pass_1 : decode cX3_pass 1 = .ok (.iconst 0, 1) := by decide +kernel
theorem dX3_pass_2 : decode cX3_pass 2 = .ok (.putfield 34, 3) := by decide +kernel
theorem dX3_pass_5 : decode cX3_pass 5 = .ok (.iload_n 1, 1) := by decide +kernel
theorem dX3_pass_6 : decode cX3_pass 6 = .ok (.iconst 1, 1) := by decide +kernel
theorem dX3_pass_7 : decode cX3_pass 7 = .ok (.sipush 600, 3) := by decide +kernel
theorem dX3_pass_10 : decode cX3_pass 10 = .ok (.invokestatic 41, 3) := by decide +kernel
theorem dX3_pass_13 : decode cX3_pass 13 = .ok (.ifCond .ne 9, 3) := by decide +kernel
theorem dX3_pass_16 : decode cX3_pass 16 = .ok (.aload_n 0, 1) := by decide +kernel
theorem dX3_pass_17 : decode cX3_pass 17 = .ok (.iconst 1, 1) := by decide +kernel
theorem dX3_pass_18 : decode cX3_pass 18 = .ok (.invokevirtual 66, 3) := by decide +kernel
theorem dX3_pass_21 : decode cX3_pass 21 = .ok (.ireturn, 1) := by decide +kernel
theorem dX3_pass_22 : decode cX3_pass 22 = .ok (.aload_n 0, 1) := by decide +kernel
theorem dX3_pass_23 : decode cX3_pass 23 = .ok (.bipush 6, 2) := by decide +kernel
theorem dX3_pass_25 : decode cX3_pass 25 = .ok (.invokevirtual 120, 3) := by decide +kernel
theorem dX3_pass_28 : decode cX3_pass 28 = .ok (.istore_n 2, 1) := by decide +kernel
theorem dX3_pass_29 : decode cX3_pass 29 = .ok (.aload_n 0, 1) := by decide +kernel
theorem dX3_pass_30 : decode cX3_pass 30 = .ok (.iload_n 1, 1) := by decide +kernel
theorem dX3_pass_31 : decode cX3_pass 31 = .ok (.invokevirtual 153, 3) := by decide +kernel
theorem dX3_pass_34 : decode cX3_pass 34 = .ok (.aload_n 0, 1) := by decide +kernel
theorem dX3_pass_35 : decode cX3_pass 35 = .ok (.bipush 6, 2) := by decide +kernel
theorem dX3_pass_37 : decode cX3_pass 37 = .ok (.invokevirtual 120, 3) := by decide +kernel
theorem dX3_pass_40 : decode cX3_pass 40 = .ok (.iload_n 2, 1) := by decide +kernel
theorem dX3_pass_41 : decode cX3_pass 41 = .ok (.isub, 1) := by decide +kernel
theorem dX3_pass_42 : decode cX3_pass 42 = .ok (.ireturn, 1) := by decide +kernel
set_option maxRecDepth 20000 in
theorem ggX3_dawn_X3_isOver : GoodIn wsX3_dawn wsX3_isOver := goodIn_r _ [9, 4, 36, 37, 38, 39, 40, 41, 42, 43, 44, 45, 46, 47, 48] (by decide +kernel) (by decide +kernel)
set_option maxRecDepth 20000 in
theorem gX3_dawn_X3_isOver : GoodIn wsX3_dawn (wsV RX3 146 RX3 yX3_isOver wsX3_isOver) := goodIn_app (goodIn_of _ (by decide +kernel)) ggX3_dawn_X3_isOver
set_option maxRecDepth 20000 in
theorem ggX3_dawn_X3_fail : GoodIn wsX3_dawn wsX3_fail := goodIn_r _ [13, 1, 36, 37, 38, 39, 40, 41, 42, 43, 44, 45, 46, 47, 48] (by decide +kernel) (by decide +kernel)
set_option maxRecDepth 20000 in
theorem gX3_dawn_X3_fail : GoodIn wsX3_dawn (wsV RX3 66 RX3 yX3_fail wsX3_fail) := goodIn_app (goodIn_of _ (by decide +kernel)) ggX3_dawn_X3_fail
set_option maxRecDepth 20000 in
theorem ggX3_dawn_X3_all : GoodIn wsX3_dawn wsX3_all := goodIn_r _ [17, 2, 18, 19, 20, 8, 21, 22, 36, 37, 38, 39, 40, 41, 42, 43, 44, 45, 46, 47, 48] (by decide +kernel) (by decide +kernel)
set_option maxRecDepth 20000 in
theorem gX3_dawn_X3_all : GoodIn wsX3_dawn (wsV RX3 120 RX3 yX3_all wsX3_all) := goodIn_app (goodIn_of _ (by decide +kernel)) ggX3_dawn_X3_all
set_option maxRecDepth 20000 in
theorem ggX3_dawn_X3_setLamp : GoodIn wsX3_dawn wsX3_setLamp := goodIn_r _ [26, 22, 36, 37, 38, 39, 40, 41, 42, 43, 44, 45, 46, 47, 48] (by decide +kernel) (by decide +kernel)
set_option maxRecDepth 20000 in
theorem gX3_dawn_X3_setLamp : GoodIn wsX3_dawn (wsV RX3 92 RX3 yX3_setLamp wsX3_setLamp) := goodIn_app (goodIn_of _ (by decide +kernel)) ggX3_dawn_X3_setLamp
set_option maxRecDepth 20000 in
theorem ggX3_dawn_X3_pe : GoodIn wsX3_dawn wsX3_pe := goodIn_r _ [30, 31, 36, 37, 38, 39, 40, 41, 42, 43, 44, 45, 46, 47, 48] (by decide +kernel) (by decide +kernel)
set_option maxRecDepth 20000 in
theorem gX3_dawn_X3_pe : GoodIn wsX3_dawn (wsV RX3 99 RX3 yX3_pe wsX3_pe) := goodIn_app (goodIn_of _ (by decide +kernel)) ggX3_dawn_X3_pe
set_option maxRecDepth 20000 in
theorem ggX3_dawn_X3_put : GoodIn wsX3_dawn wsX3_put := goodIn_r _ [35, 31, 36, 37, 38, 39, 40, 41, 42, 43, 44, 45, 46, 47, 48] (by decide +kernel) (by decide +kernel)
set_option maxRecDepth 20000 in
theorem gX3_dawn_X3_put : GoodIn wsX3_dawn (wsV RX3 102 RX3 yX3_put wsX3_put) := goodIn_app (goodIn_of _ (by decide +kernel)) ggX3_dawn_X3_put
theorem dX3_dawn_0 : decode cX3_dawn 0 = .ok (.aload_n 0, 1) := by decide +kernel
theorem dX3_dawn_1 : decode cX3_dawn 1 = .ok (.iconst 0, 1) := by decide +kernel
theorem dX3_dawn_2 : decode cX3_dawn 2 = .ok (.putfield 34, 3) := by decide +kernel
theorem dX3_dawn_5 : decode cX3_dawn 5 = .ok (.aload_n 0, 1) := by decide +kernel
theorem dX3_dawn_6 : decode cX3_dawn 6 = .ok (.invokevirtual 146, 3) := by decide +kernel
theorem dX3_dawn_9 : decode cX3_dawn 9 = .ok (.ifCond .ne 9, 3) := by decide +kernel
theorem dX3_dawn_12 : decode cX3_dawn 12 = .ok (.aload_n 0, 1) := by decide +kernel
theorem dX3_dawn_13 : decode cX3_dawn 13 = .ok (.iconst 1, 1) := by decide +kernel
theorem dX3_dawn_14 : decode cX3_dawn 14 = .ok (.invokevirtual 66, 3) := by decide +kernel
theorem dX3_dawn_17 : decode cX3_dawn 17 = .ok (.ireturn, 1) := by decide +kernel
theorem dX3_dawn_18 : decode cX3_dawn 18 = .ok (.aload_n 0, 1) := by decide +kernel
theorem dX3_dawn_19 : decode cX3_dawn 19 = .ok (.iconst 5, 1) := by decide +kernel
theorem dX3_dawn_20 : decode cX3_dawn 20 = .ok (.invokevirtual 120, 3) := by decide +kernel
theorem dX3_dawn_23 : decode cX3_dawn 23 = .ok (.istore_n 1, 1) := by decide +kernel
theorem dX3_dawn_24 : decode cX3_dawn 24 = .ok (.iconst 0, 1) := by decide +kernel
theorem dX3_dawn_25 : decode cX3_dawn 25 = .ok (.istore_n 2, 1) := by decide +kernel
theorem dX3_dawn_26 : decode cX3_dawn 26 = .ok (.iload_n 2, 1) := by decide +kernel
theorem dX3_dawn_27 : decode cX3_dawn 27 = .ok (.aload_n 0, 1) := by decide +kernel
theorem dX3_dawn_28 : decode cX3_dawn 28 = .ok (.getfield 48, 3) := by decide +kernel
theorem dX3_dawn_31 : decode cX3_dawn 31 = .ok (.if_icmp .ge 16, 3) := by decide +kernel
theorem dX3_dawn_34 : decode cX3_dawn 34 = .ok (.aload_n 0, 1) := by decide +kernel
theorem dX3_dawn_35 : decode cX3_dawn 35 = .ok (.iload_n 2, 1) := by decide +kernel
theorem dX3_dawn_36 : decode cX3_dawn 36 = .ok (.iconst 5, 1) := by decide +kernel
theorem dX3_dawn_37 : decode cX3_dawn 37 = .ok (.iconst 0, 1) := by decide +kernel
theorem dX3_dawn_38 : decode cX3_dawn 38 = .ok (.invokevirtual 92, 3) := by decide +kernel
theorem dX3_dawn_41 : decode cX3_dawn 41 = .ok (.iinc 2 1, 3) := by decide +kernel
theorem dX3_dawn_44 : decode cX3_dawn 44 = .ok (.goto (-18), 3) := by decide +kernel
theorem dX3_dawn_47 : decode cX3_dawn 47 = .ok (.iconst 0, 1) := by decide +kernel
theorem dX3_dawn_48 : decode cX3_dawn 48 = .ok (.istore_n 2, 1) := by decide +kernel
theorem dX3_dawn_49 : decode cX3_dawn 49 = .ok (.iload_n 2, 1) := by decide +kernel
theorem dX3_dawn_50 : decode cX3_dawn 50 = .ok (.aload_n 0, 1) := by decide +kernel
theorem dX3_dawn_51 : decode cX3_dawn 51 = .ok (.getfield 51, 3) := by decide +kernel
theorem dX3_dawn_54 : decode cX3_dawn 54 = .ok (.if_icmp .ge 44, 3) := by decide +kernel
theorem dX3_dawn_57 : decode cX3_dawn 57 = .ok (.aload_n 0, 1) := by decide +kernel
theorem dX3_dawn_58 : decode cX3_dawn 58 = .ok (.iload_n 2, 1) := by decide +kernel
theorem dX3_dawn_59 : decode cX3_dawn 59 = .ok (.iconst 1, 1) := by decide +kernel
theorem dX3_dawn_60 : decode cX3_dawn 60 = .ok (.aload_n 0, 1) := by decide +kernel
theorem dX3_dawn_61 : decode cX3_dawn 61 = .ok (.iload_n 2, 1) := by decide +kernel
theorem dX3_dawn_62 : decode cX3_dawn 62 = .ok (.iconst 0, 1) := by decide +kernel
theorem dX3_dawn_63 : decode cX3_dawn 63 = .ok (.invokevirtual 99, 3) := by decide +kernel
theorem dX3_dawn_66 : decode cX3_dawn 66 = .ok (.invokevirtual 102, 3) := by decide +kernel
theorem dX3_dawn_69 : decode cX3_dawn 69 = .ok (.aload_n 0, 1) := by decide +kernel
theorem dX3_dawn_70 : decode cX3_dawn 70 = .ok (.iload_n 2, 1) := by decide +kernel
theorem dX3_dawn_71 : decode cX3_dawn 71 = .ok (.iconst 5, 1) := by decide +kernel
theorem dX3_dawn_72 : decode cX3_dawn 72 = .ok (.iconst (-1), 1) := by decide +kernel
theorem dX3_dawn_73 : decode cX3_dawn 73 = .ok (.invokevirtual 102, 3) := by decide +kernel
theorem dX3_dawn_76 : decode cX3_dawn 76 = .ok (.aload_n 0, 1) := by decide +kernel
theorem dX3_dawn_77 : decode cX3_dawn 77 = .ok (.iload_n 2, 1) := by decide +kernel
theorem dX3_dawn_78 : decode cX3_dawn 78 = .ok (.bipush 6, 2) := by decide +kernel
theorem dX3_dawn_80 : decode cX3_dawn 80 = .ok (.iconst 0, 1) := by decide +kernel
theorem dX3_dawn_81 : decode cX3_dawn 81 = .ok (.invokevirtual 102, 3) := by decide +kernel
theorem dX3_dawn_84 : decode cX3_dawn 84 = .ok (.aload_n 0, 1) := by decide +kernel
theorem dX3_dawn_85 : decode cX3_dawn 85 = .ok (.iload_n 2, 1) := by decide +kernel
theorem dX3_dawn_86 : decode cX3_dawn 86 = .ok (.bipush 8, 2) := by decide +kernel
theorem dX3_dawn_88 : decode cX3_dawn 88 = .ok (.iconst (-1), 1) := by decide +kernel
theorem dX3_dawn_89 : decode cX3_dawn 89 = .ok (.invokevirtual 102, 3) := by decide +kernel
theorem dX3_dawn_92 : decode cX3_dawn 92 = .ok (.iinc 2 1, 3) := by decide +kernel
theorem dX3_dawn_95 : decode cX3_dawn 95 = .ok (.goto (-46), 3) := by decide +kernel
theorem dX3_dawn_98 : decode cX3_dawn 98 = .ok (.aload_n 0, 1) := by decide +kernel
theorem dX3_dawn_99 : decode cX3_dawn 99 = .ok (.getfield 31, 3) := by decide +kernel
theorem dX3_dawn_102 : decode cX3_dawn 102 = .ok (.iconst 0, 1) := by decide +kernel
theorem dX3_dawn_103 : decode cX3_dawn 103 = .ok (.iconst 0, 1) := by decide +kernel
theorem dX3_dawn_104 : decode cX3_dawn 104 = .ok (.iastore, 1) := by decide +kernel
theorem dX3_dawn_105 : decode cX3_dawn 105 = .ok (.aload_n 0, 1) := by decide +kernel
theorem dX3_dawn_106 : decode cX3_dawn 106 = .ok (.getfield 31, 3) := by decide +kernel
theorem dX3_dawn_109 : decode cX3_dawn 109 = .ok (.iconst 1, 1) := by decide +kernel
theorem dX3_dawn_110 : decode cX3_dawn 110 = .ok (.dup2, 1) := by decide +kernel
theorem dX3_dawn_111 : decode cX3_dawn 111 = .ok (.iaload, 1) := by decide +kernel
theorem dX3_dawn_112 : decode cX3_dawn 112 = .ok (.iconst 1, 1) := by decide +kernel
theorem dX3_dawn_113 : decode cX3_dawn 113 = .ok (.iadd, 1) := by decide +kernel
theorem dX3_dawn_114 : decode cX3_dawn 114 = .ok (.iastore, 1) := by decide +kernel
theorem dX3_dawn_115 : decode cX3_dawn 115 = .ok (.iload_n 1, 1) := by decide +kernel
theorem dX3_dawn_116 : decode cX3_dawn 116 = .ok (.ireturn, 1) := by decide +kernel
theorem dX3_kept_0 : decode cX3_kept 0 = .ok (.iconst 3, 1) := by decide +kernel
theorem dX3_kept_1 : decode cX3_kept 1 = .ok (.anewarray 156, 3) := by decide +kernel
theorem dX3_kept_4 : decode cX3_kept 4 = .ok (.dup, 1) := by decide +kernel
theorem dX3_kept_5 : decode cX3_kept 5 = .ok (.iconst 0, 1) := by decide +kernel
theorem dX3_kept_6 : decode cX3_kept 6 = .ok (.aload_n 0, 1) := by decide +kernel
theorem dX3_kept_7 : decode cX3_kept 7 = .ok (.getfield 19, 3) := by decide +kernel
theorem dX3_kept_10 : decode cX3_kept 10 = .ok (.invokevirtual 157, 3) := by decide +kernel
theorem dX3_kept_13 : decode cX3_kept 13 = .ok (.checkcast 156, 3) := by decide +kernel
theorem dX3_kept_16 : decode cX3_kept 16 = .ok (.aastore, 1) := by decide +kernel
theorem dX3_kept_17 : decode cX3_kept 17 = .ok (.dup, 1) := by decide +kernel
theorem dX3_kept_18 : decode cX3_kept 18 = .ok (.iconst 1, 1) := by decide +kernel
theorem dX3_kept_19 : decode cX3_kept 19 = .ok (.aload_n 0, 1) := by decide +kernel
theorem dX3_kept_20 : decode cX3_kept 20 = .ok (.getfield 22, 3) := by decide +kernel
theorem dX3_kept_23 : decode cX3_kept 23 = .ok (.invokevirtual 157, 3) := by decide +kernel
theorem dX3_kept_26 : decode cX3_kept 26 = .ok (.checkcast 156, 3) := by decide +kernel
theorem dX3_kept_29 : decode cX3_kept 29 = .ok (.aastore, 1) := by decide +kernel
theorem dX3_kept_30 : decode cX3_kept 30 = .ok (.dup, 1) := by decide +kernel
theorem dX3_kept_31 : decode cX3_kept 31 = .ok (.iconst 2, 1) := by decide +kernel
theorem dX3_kept_32 : decode cX3_kept 32 = .ok (.aload_n 0, 1) := by decide +kernel
theorem dX3_kept_33 : decode cX3_kept 33 = .ok (.getfield 31, 3) := by decide +kernel
theorem dX3_kept_36 : decode cX3_kept 36 = .ok (.invokevirtual 157, 3) := by decide +kernel
theorem dX3_kept_39 : decode cX3_kept 39 = .ok (.checkcast 156, 3) := by decide +kernel
theorem dX3_kept_42 : decode cX3_kept 42 = .ok (.aastore, 1) := by decide +kernel
theorem dX3_kept_43 : decode cX3_kept 43 = .ok (.areturn, 1) := by decide +kernel
theorem dX3_bringBack_0 : decode cX3_bringBack 0 = .ok (.aload_n 1, 1) := by decide +kernel
theorem dX3_bringBack_1 : decode cX3_bringBack 1 = .ok (.iconst 0, 1) := by decide +kernel
theorem dX3_bringBack_2 : decode cX3_bringBack 2 = .ok (.aaload, 1) := by decide +kernel
theorem dX3_bringBack_3 : decode cX3_bringBack 3 = .ok (.iconst 0, 1) := by decide +kernel
theorem dX3_bringBack_4 : decode cX3_bringBack 4 = .ok (.aload_n 0, 1) := by decide +kernel
theorem dX3_bringBack_5 : decode cX3_bringBack 5 = .ok (.getfield 19, 3) := by decide +kernel
theorem dX3_bringBack_8 : decode cX3_bringBack 8 = .ok (.iconst 0, 1) := by decide +kernel
theorem dX3_bringBack_9 : decode cX3_bringBack 9 = .ok (.aload_n 0, 1) := by decide +kernel
theorem dX3_bringBack_10 : decode cX3_bringBack 10 = .ok (.getfield 19, 3) := by decide +kernel
theorem dX3_bringBack_13 : decode cX3_bringBack 13 = .ok (.arraylength, 1) := by decide +kernel
theorem dX3_bringBack_14 : decode cX3_bringBack 14 = .ok (.invokestatic 77, 3) := by decide +kernel
theorem dX3_bringBack_17 : decode cX3_bringBack 17 = .ok (.aload_n 1, 1) := by decide +kernel
theorem dX3_bringBack_18 : decode cX3_bringBack 18 = .ok (.iconst 1, 1) := by decide +kernel
theorem dX3_bringBack_19 : decode cX3_bringBack 19 = .ok (.aaload, 1) := by decide +kernel
theorem dX3_bringBack_20 : decode cX3_bringBack 20 = .ok (.iconst 0, 1) := by decide +kernel
theorem dX3_bringBack_21 : decode cX3_bringBack 21 = .ok (.aload_n 0, 1) := by decide +kernel
theorem dX3_bringBack_22 : decode cX3_bringBack 22 = .ok (.getfield 22, 3) := by decide +kernel
theorem dX3_bringBack_25 : decode cX3_bringBack 25 = .ok (.iconst 0, 1) := by decide +kernel
theorem dX3_bringBack_26 : decode cX3_bringBack 26 = .ok (.aload_n 0, 1) := by decide +kernel
theorem dX3_bringBack_27 : decode cX3_bringBack 27 = .ok (.getfield 22, 3) := by decide +kernel
theorem dX3_bringBack_30 : decode cX3_bringBack 30 = .ok (.arraylength, 1) := by decide +kernel
theorem dX3_bringBack_31 : decode cX3_bringBack 31 = .ok (.invokestatic 77, 3) := by decide +kernel
theorem dX3_bringBack_34 : decode cX3_bringBack 34 = .ok (.aload_n 1, 1) := by decide +kernel
theorem dX3_bringBack_35 : decode cX3_bringBack 35 = .ok (.iconst 2, 1) := by decide +kernel
theorem dX3_bringBack_36 : decode cX3_bringBack 36 = .ok (.aaload, 1) := by decide +kernel
theorem dX3_bringBack_37 : decode cX3_bringBack 37 = .ok (.iconst 0, 1) := by decide +kernel
theorem dX3_bringBack_38 : decode cX3_bringBack 38 = .ok (.aload_n 0, 1) := by decide +kernel
theorem dX3_bringBack_39 : decode cX3_bringBack 39 = .ok (.getfield 31, 3) := by decide +kernel
theorem dX3_bringBack_42 : decode cX3_bringBack 42 = .ok (.iconst 0, 1) := by decide +kernel
theorem dX3_bringBack_43 : decode cX3_bringBack 43 = .ok (.aload_n 0, 1) := by decide +kernel
theorem dX3_bringBack_44 : decode cX3_bringBack 44 = .ok (.getfield 31, 3) := by decide +kernel
theorem dX3_bringBack_47 : decode cX3_bringBack 47 = .ok (.arraylength, 1) := by decide +kernel
theorem dX3_bringBack_48 : decode cX3_bringBack 48 = .ok (.invokestatic 77, 3) := by decide +kernel
theorem dX3_bringBack_51 : decode cX3_bringBack 51 = .ok (.return_, 1) := by decide +kernel
set_option maxRecDepth 20000 in
theorem ggX3_comes_X3_isLamp : GoodIn wsX3_comes wsX3_isLamp := goodIn_r _ [6, 7, 8, 9, 5, 10, 105, 106, 107, 108, 109, 110, 111, 112, 113, 114, 115, 116, 117] (by decide +kernel) (by decide +kernel)
set_option maxRecDepth 20000 in
theorem gX3_comes_X3_isLamp : GoodIn wsX3_comes (wsV RX3 86 RX3 yX3_isLamp wsX3_isLamp) := goodIn_app (goodIn_of _ (by decide +kernel)) ggX3_comes_X3_isLamp
set_option maxRecDepth 20000 in
theorem ggX3_comes_X3_fail : GoodIn wsX3_comes wsX3_fail := goodIn_r _ [14, 1, 105, 106, 107, 108, 109, 110, 111, 112, 113, 114, 115, 116, 117] (by decide +kernel) (by decide +kernel)
set_option maxRecDepth 20000 in
theorem gX3_comes_X3_fail : GoodIn wsX3_comes (wsV RX3 66 RX3 yX3_fail wsX3_fail) := goodIn_app (goodIn_of _ (by decide +kernel)) ggX3_comes_X3_fail
set_option maxRecDepth 20000 in
theorem ggX3_comes_X3_kept : GoodIn wsX3_comes wsX3_kept := goodIn_r _ [18, 19, 20, 21, 22, 23, 24, 25, 26, 27, 105, 106, 107, 108, 109, 110, 111, 112, 113, 114, 115, 116, 117] (by decide +kernel) (by decide +kernel)
set_option maxRecDepth 20000 in
theorem gX3_comes_X3_kept : GoodIn wsX3_comes (wsV RX3 161 RX3 yX3_kept wsX3_kept) := goodIn_app (goodIn_of _ (by decide +kernel)) ggX3_comes_X3_kept
set_option maxRecDepth 20000 in
theorem ggX3_comes_X3_isOver : GoodIn wsX3_comes wsX3_isOver := goodIn_r _ [31, 27, 105, 106, 107, 108, 109, 110, 111, 112, 113, 114, 115, 116, 117] (by decide +kernel) (by decide +kernel)
set_option maxRecDepth 20000 in
theorem gX3_comes_X3_isOver : GoodIn wsX3_comes (wsV RX3 146 RX3 yX3_isOver wsX3_isOver) := goodIn_app (goodIn_of _ (by decide +kernel)) ggX3_comes_X3_isOver
set_option maxRecDepth 20000 in
theorem ggX3_comes_X3_minuteOn : GoodIn wsX3_comes wsX3_minuteOn := goodIn_r _ [35, 36, 7, 27, 37, 38, 39, 5, 40, 41, 42, 43, 44, 45, 46, 47, 48, 26, 49, 50, 51, 52, 53, 54, 55, 56, 57, 20, 58, 59, 60, 61, 62, 63, 64, 65, 66, 67, 68, 69, 70, 71, 72, 73, 74, 75, 76, 77, 78, 79, 80, 81, 82, 83, 84, 85, 86, 87, 88, 89, 90, 91, 92, 93, 94, 95, 96, 105, 106, 107, 108, 109, 110, 111, 112, 113, 114, 115, 116, 117] (by decide +kernel) (by decide +kernel)
set_option maxRecDepth 20000 in
theorem gX3_comes_X3_minuteOn : GoodIn wsX3_comes (wsV RX3 150 RX3 yX3_minuteOn wsX3_minuteOn) := goodIn_app (goodIn_of _ (by decide +kernel)) ggX3_comes_X3_minuteOn
set_option maxRecDepth 20000 in
theorem ggX3_comes_X3_bringBack : GoodIn wsX3_comes wsX3_bringBack := goodIn_r _ [100, 20, 101, 102, 103, 104, 26, 27, 105, 106, 107, 108, 109, 110, 111, 112, 113, 114, 115, 116, 117] (by decide +kernel) (by decide +kernel)
set_option maxRecDepth 20000 in
theorem gX3_comes_X3_bringBack : GoodIn wsX3_comes (wsV RX3 165 RX3 yX3_bringBack wsX3_bringBack) := goodIn_app (goodIn_of _ (by decide +kernel)) ggX3_comes_X3_bringBack
theorem dX3_comes_0 : decode cX3_comes 0 = .ok (.aload_n 0, 1) := by decide +kernel
theorem dX3_comes_1 : decode cX3_comes 1 = .ok (.iconst 0, 1) := by decide +kernel
theorem dX3_comes_2 : decode cX3_comes 2 = .ok (.putfield 34, 3) := by decide +kernel
theorem dX3_comes_5 : decode cX3_comes 5 = .ok (.aload_n 0, 1) := by decide +kernel
theorem dX3_comes_6 : decode cX3_comes 6 = .ok (.iload_n 1, 1) := by decide +kernel
theorem dX3_comes_7 : decode cX3_comes 7 = .ok (.invokevirtual 86, 3) := by decide +kernel
theorem dX3_comes_10 : decode cX3_comes 10 = .ok (.ifCond .ne 9, 3) := by decide +kernel
theorem dX3_comes_13 : decode cX3_comes 13 = .ok (.aload_n 0, 1) := by decide +kernel
theorem dX3_comes_14 : decode cX3_comes 14 = .ok (.iconst 1, 1) := by decide +kernel
theorem dX3_comes_15 : decode cX3_comes 15 = .ok (.invokevirtual 66, 3) := by decide +kernel
theorem dX3_comes_18 : decode cX3_comes 18 = .ok (.ireturn, 1) := by decide +kernel
theorem dX3_comes_19 : decode cX3_comes 19 = .ok (.aload_n 0, 1) := by decide +kernel
theorem dX3_comes_20 : decode cX3_comes 20 = .ok (.invokevirtual 161, 3) := by decide +kernel
theorem dX3_comes_23 : decode cX3_comes 23 = .ok (.astore_n 2, 1) := by decide +kernel
theorem dX3_comes_24 : decode cX3_comes 24 = .ok (.iconst (-1), 1) := by decide +kernel
theorem dX3_comes_25 : decode cX3_comes 25 = .ok (.istore_n 3, 1) := by decide +kernel
theorem dX3_comes_26 : decode cX3_comes 26 = .ok (.iconst 1, 1) := by decide +kernel
theorem dX3_comes_27 : decode cX3_comes 27 = .ok (.istore 4, 2) := by decide +kernel
theorem dX3_comes_29 : decode cX3_comes 29 = .ok (.iload_n 3, 1) := by decide +kernel
theorem dX3_comes_30 : decode cX3_comes 30 = .ok (.iconst (-1), 1) := by decide +kernel
theorem dX3_comes_31 : decode cX3_comes 31 = .ok (.if_icmp .ne 31, 3) := by decide +kernel
theorem dX3_comes_34 : decode cX3_comes 34 = .ok (.aload_n 0, 1) := by decide +kernel
theorem dX3_comes_35 : decode cX3_comes 35 = .ok (.invokevirtual 146, 3) := by decide +kernel
theorem dX3_comes_38 : decode cX3_comes 38 = .ok (.ifCond .ne 24, 3) := by decide +kernel
theorem dX3_comes_41 : decode cX3_comes 41 = .ok (.aload_n 0, 1) := by decide +kernel
theorem dX3_comes_42 : decode cX3_comes 42 = .ok (.invokevirtual 150, 3) := by decide +kernel
theorem dX3_comes_45 : decode cX3_comes 45 = .ok (.iload_n 1, 1) := by decide +kernel
theorem dX3_comes_46 : decode cX3_comes 46 = .ok (.ishr, 1) := by decide +kernel
theorem dX3_comes_47 : decode cX3_comes 47 = .ok (.iconst 1, 1) := by decide +kernel
theorem dX3_comes_48 : decode cX3_comes 48 = .ok (.iand, 1) := by decide +kernel
theorem dX3_comes_49 : decode cX3_comes 49 = .ok (.iconst 1, 1) := by decide +kernel
theorem dX3_comes_50 : decode cX3_comes 50 = .ok (.if_icmp .ne 6, 3) := by decide +kernel
theorem dX3_comes_53 : decode cX3_comes 53 = .ok (.iload 4, 2) := by decide +kernel
theorem dX3_comes_55 : decode cX3_comes 55 = .ok (.istore_n 3, 1) := by decide +kernel
theorem dX3_comes_56 : decode cX3_comes 56 = .ok (.iinc 4 1, 3) := by decide +kernel
theorem dX3_comes_59 : decode cX3_comes 59 = .ok (.goto (-30), 3) := by decide +kernel
theorem dX3_comes_62 : decode cX3_comes 62 = .ok (.aload_n 0, 1) := by decide +kernel
theorem dX3_comes_63 : decode cX3_comes 63 = .ok (.aload_n 2, 1) := by decide +kernel
theorem dX3_comes_64 : decode cX3_comes 64 = .ok (.invokevirtual 165, 3) := by decide +kernel
theorem dX3_comes_67 : decode cX3_comes 67 = .ok (.iload_n 3, 1) := by decide +kernel
theorem dX3_comes_68 : decode cX3_comes 68 = .ok (.ireturn, 1) := by decide +kernel
set_option maxRecDepth 20000 in
theorem ggX3_darkest_X3_kept : GoodIn wsX3_darkest wsX3_kept := goodIn_r _ [8, 9, 10, 11, 12, 13, 14, 15, 16, 17, 100, 101, 102, 103, 104, 105, 106, 107, 108, 109, 110, 111, 112] (by decide +kernel) (by decide +kernel)
set_option maxRecDepth 20000 in
theorem gX3_darkest_X3_kept : GoodIn wsX3_darkest (wsV RX3 161 RX3 yX3_kept wsX3_kept) := goodIn_app (goodIn_of _ (by decide +kernel)) ggX3_darkest_X3_kept
set_option maxRecDepth 20000 in
theorem ggX3_darkest_X3_isOver : GoodIn wsX3_darkest wsX3_isOver := goodIn_r _ [21, 17, 100, 101, 102, 103, 104, 105, 106, 107, 108, 109, 110, 111, 112] (by decide +kernel) (by decide +kernel)
set_option maxRecDepth 20000 in
theorem gX3_darkest_X3_isOver : GoodIn wsX3_darkest (wsV RX3 146 RX3 yX3_isOver wsX3_isOver) := goodIn_app (goodIn_of _ (by decide +kernel)) ggX3_darkest_X3_isOver
set_option maxRecDepth 20000 in
theorem ggX3_darkest_X3_minuteOn : GoodIn wsX3_darkest wsX3_minuteOn := goodIn_r _ [25, 26, 27, 17, 28, 29, 30, 7, 31, 32, 33, 34, 35, 36, 37, 38, 39, 16, 40, 41, 42, 43, 44, 45, 46, 47, 48, 10, 49, 50, 51, 52, 53, 54, 55, 56, 57, 58, 59, 60, 61, 62, 63, 64, 65, 66, 67, 68, 69, 70, 71, 72, 73, 74, 75, 76, 77, 78, 79, 80, 81, 82, 83, 84, 85, 86, 87, 100, 101, 102, 103, 104, 105, 106, 107, 108, 109, 110, 111, 112] (by decide +kernel) (by decide +kernel)
set_option maxRecDepth 20000 in
theorem gX3_darkest_X3_minuteOn : GoodIn wsX3_darkest (wsV RX3 150 RX3 yX3_minuteOn wsX3_minuteOn) := goodIn_app (goodIn_of _ (by decide +kernel)) ggX3_darkest_X3_minuteOn
set_option maxRecDepth 20000 in
theorem ggX3_darkest_X3_burns : GoodIn wsX3_darkest wsX3_burns := goodIn_r _ [91, 27, 45, 46, 47, 7, 48, 10, 100, 101, 102, 103, 104, 105, 106, 107, 108, 109, 110, 111, 112] (by decide +kernel) (by decide +kernel)
set_option maxRecDepth 20000 in
theorem gX3_darkest_X3_burns : GoodIn wsX3_darkest (wsV RX3 117 RX3 yX3_burns wsX3_burns) := goodIn_app (goodIn_of _ (by decide +kernel)) ggX3_darkest_X3_burns
set_option maxRecDepth 20000 in
theorem ggX3_darkest_X3_bringBack : GoodIn wsX3_darkest wsX3_bringBack := goodIn_r _ [95, 10, 96, 97, 98, 99, 16, 17, 100, 101, 102, 103, 104, 105, 106, 107, 108, 109, 110, 111, 112] (by decide +kernel) (by decide +kernel)
set_option maxRecDepth 20000 in
theorem gX3_darkest_X3_bringBack : GoodIn wsX3_darkest (wsV RX3 165 RX3 yX3_bringBack wsX3_bringBack) := goodIn_app (goodIn_of _ (by decide +kernel)) ggX3_darkest_X3_bringBack
theorem dX3_darkest_0 : decode cX3_darkest 0 = .ok (.aload_n 0, 1) := by decide +kernel
theorem dX3_darkest_1 : decode cX3_darkest 1 = .ok (.iconst 0, 1) := by decide +kernel
theorem dX3_darkest_2 : decode cX3_darkest 2 = .ok (.putfield 34, 3) := by decide +kernel
theorem dX3_darkest_5 : decode cX3_darkest 5 = .ok (.aload_n 0, 1) := by decide +kernel
theorem dX3_darkest_6 : decode cX3_darkest 6 = .ok (.invokevirtual 161, 3) := by decide +kernel
theorem dX3_darkest_9 : decode cX3_darkest 9 = .ok (.astore_n 1, 1) := by decide +kernel
theorem dX3_darkest_10 : decode cX3_darkest 10 = .ok (.bipush 18, 2) := by decide +kernel
theorem dX3_darkest_12 : decode cX3_darkest 12 = .ok (.newarray .int, 2) := by decide +kernel
theorem dX3_darkest_14 : decode cX3_darkest 14 = .ok (.astore_n 2, 1) := by decide +kernel
theorem dX3_darkest_15 : decode cX3_darkest 15 = .ok (.aload_n 0, 1) := by decide +kernel
theorem dX3_darkest_16 : decode cX3_darkest 16 = .ok (.invokevirtual 146, 3) := by decide +kernel
theorem dX3_darkest_19 : decode cX3_darkest 19 = .ok (.ifCond .ne 46, 3) := by decide +kernel
theorem dX3_darkest_22 : decode cX3_darkest 22 = .ok (.aload_n 0, 1) := by decide +kernel
theorem dX3_darkest_23 : decode cX3_darkest 23 = .ok (.invokevirtual 150, 3) := by decide +kernel
theorem dX3_darkest_26 : decode cX3_darkest 26 = .ok (.pop, 1) := by decide +kernel
theorem dX3_darkest_27 : decode cX3_darkest 27 = .ok (.iconst 0, 1) := by decide +kernel
theorem dX3_darkest_28 : decode cX3_darkest 28 = .ok (.istore_n 3, 1) := by decide +kernel
theorem dX3_darkest_29 : decode cX3_darkest 29 = .ok (.iload_n 3, 1) := by decide +kernel
theorem dX3_darkest_30 : decode cX3_darkest 30 = .ok (.aload_n 0, 1) := by decide +kernel
theorem dX3_darkest_31 : decode cX3_darkest 31 = .ok (.getfield 45, 3) := by decide +kernel
theorem dX3_darkest_34 : decode cX3_darkest 34 = .ok (.if_icmp .ge 28, 3) := by decide +kernel
theorem dX3_darkest_37 : decode cX3_darkest 37 = .ok (.aload_n 2, 1) := by decide +kernel
theorem dX3_darkest_38 : decode cX3_darkest 38 = .ok (.iload_n 3, 1) := by decide +kernel
theorem dX3_darkest_39 : decode cX3_darkest 39 = .ok (.dup2, 1) := by decide +kernel
theorem dX3_darkest_40 : decode cX3_darkest 40 = .ok (.iaload, 1) := by decide +kernel
theorem dX3_darkest_41 : decode cX3_darkest 41 = .ok (.aload_n 0, 1) := by decide +kernel
theorem dX3_darkest_42 : decode cX3_darkest 42 = .ok (.iload_n 3, 1) := by decide +kernel
theorem dX3_darkest_43 : decode cX3_darkest 43 = .ok (.invokevirtual 117, 3) := by decide +kernel
theorem dX3_darkest_46 : decode cX3_darkest 46 = .ok (.ifCond .ne 7, 3) := by decide +kernel
theorem dX3_darkest_49 : decode cX3_darkest 49 = .ok (.iconst 1, 1) := by decide +kernel
theorem dX3_darkest_50 : decode cX3_darkest 50 = .ok (.goto 4, 3) := by decide +kernel
theorem dX3_darkest_53 : decode cX3_darkest 53 = .ok (.iconst 0, 1) := by decide +kernel
theorem dX3_darkest_54 : decode cX3_darkest 54 = .ok (.iadd, 1) := by decide +kernel
theorem dX3_darkest_55 : decode cX3_darkest 55 = .ok (.iastore, 1) := by decide +kernel
theorem dX3_darkest_56 : decode cX3_darkest 56 = .ok (.iinc 3 1, 3) := by decide +kernel
theorem dX3_darkest_59 : decode cX3_darkest 59 = .ok (.goto (-30), 3) := by decide +kernel
theorem dX3_darkest_62 : decode cX3_darkest 62 = .ok (.goto (-47), 3) := by decide +kernel
theorem dX3_darkest_65 : decode cX3_darkest 65 = .ok (.aload_n 0, 1) := by decide +kernel
theorem dX3_darkest_66 : decode cX3_darkest 66 = .ok (.aload_n 1, 1) := by decide +kernel
theorem dX3_darkest_67 : decode cX3_darkest 67 = .ok (.invokevirtual 165, 3) := by decide +kernel
theorem dX3_darkest_70 : decode cX3_darkest 70 = .ok (.iconst (-1), 1) := by decide +kernel
theorem dX3_darkest_71 : decode cX3_darkest 71 = .ok (.istore_n 3, 1) := by decide +kernel
theorem dX3_darkest_72 : decode cX3_darkest 72 = .ok (.iconst 0, 1) := by decide +kernel
theorem dX3_darkest_73 : decode cX3_darkest 73 = .ok (.istore 4, 2) := by decide +kernel
theorem dX3_darkest_75 : decode cX3_darkest 75 = .ok (.iload 4, 2) := by decide +kernel
theorem dX3_darkest_77 : decode cX3_darkest 77 = .ok (.aload_n 0, 1) := by decide +kernel
theorem dX3_darkest_78 : decode cX3_darkest 78 = .ok (.getfield 45, 3) := by decide +kernel
theorem dX3_darkest_81 : decode cX3_darkest 81 = .ok (.if_icmp .ge 31, 3) := by decide +kernel
theorem dX3_darkest_84 : decode cX3_darkest 84 = .ok (.aload_n 2, 1) := by decide +kernel
theorem dX3_darkest_85 : decode cX3_darkest 85 = .ok (.iload 4, 2) := by decide +kernel
theorem dX3_darkest_87 : decode cX3_darkest 87 = .ok (.iaload, 1) := by decide +kernel
theorem dX3_darkest_88 : decode cX3_darkest 88 = .ok (.iload_n 3, 1) := by decide +kernel
theorem dX3_darkest_89 : decode cX3_darkest 89 = .ok (.iconst (-1), 1) := by decide +kernel
theorem dX3_darkest_90 : decode cX3_darkest 90 = .ok (.if_icmp .ne 7, 3) := by decide +kernel
theorem dX3_darkest_93 : decode cX3_darkest 93 = .ok (.iconst 0, 1) := by decide +kernel
theorem dX3_darkest_94 : decode cX3_darkest 94 = .ok (.goto 6, 3) := by decide +kernel
theorem dX3_darkest_97 : decode cX3_darkest 97 = .ok (.aload_n 2, 1) := by decide +kernel
theorem dX3_darkest_98 : decode cX3_darkest 98 = .ok (.iload_n 3, 1) := by decide +kernel
theorem dX3_darkest_99 : decode cX3_darkest 99 = .ok (.iaload, 1) := by decide +kernel
theorem dX3_darkest_100 : decode cX3_darkest 100 = .ok (.if_icmp .le 6, 3) := by decide +kernel
theorem dX3_darkest_103 : decode cX3_darkest 103 = .ok (.iload 4, 2) := by decide +kernel
theorem dX3_darkest_105 : decode cX3_darkest 105 = .ok (.istore_n 3, 1) := by decide +kernel
theorem dX3_darkest_106 : decode cX3_darkest 106 = .ok (.iinc 4 1, 3) := by decide +kernel
theorem dX3_darkest_109 : decode cX3_darkest 109 = .ok (.goto (-34), 3) := by decide +kernel
theorem dX3_darkest_112 : decode cX3_darkest 112 = .ok (.iload_n 3, 1) := by decide +kernel
theorem dX3_darkest_113 : decode cX3_darkest 113 = .ok (.ireturn, 1) := by decide +kernel
set_option maxRecDepth 20000 in
theorem ggX3_needs_X3_isLamp : GoodIn wsX3_needs wsX3_isLamp := goodIn_r _ [11, 12, 13, 14, 10, 15, 35, 36, 37, 38, 39, 40, 41, 42, 43, 44, 45, 46, 47] (by decide +kernel) (by decide +kernel)
set_option maxRecDepth 20000 in
theorem gX3_needs_X3_isLamp : GoodIn wsX3_needs (wsV RX3 86 RX3 yX3_isLamp wsX3_isLamp) := goodIn_app (goodIn_of _ (by decide +kernel)) ggX3_needs_X3_isLamp
set_option maxRecDepth 20000 in
theorem ggX3_needs_X3_fail : GoodIn wsX3_needs wsX3_fail := goodIn_r _ [19, 1, 35, 36, 37, 38, 39, 40, 41, 42, 43, 44, 45, 46, 47] (by decide +kernel) (by decide +kernel)
set_option maxRecDepth 20000 in
theorem gX3_needs_X3_fail : GoodIn wsX3_needs (wsV RX3 66 RX3 yX3_fail wsX3_fail) := goodIn_app (goodIn_of _ (by decide +kernel)) ggX3_needs_X3_fail
set_option maxRecDepth 20000 in
theorem ggX3_needs_X3_gust : GoodIn wsX3_needs wsX3_gust := goodIn_r _ [23, 24, 3, 4, 5, 6, 25, 26, 27, 10, 28, 29, 30, 31, 32, 33, 34, 35, 36, 37, 38, 39, 40, 41, 42, 43, 44, 45, 46, 47] (by decide +kernel) (by decide +kernel)
set_option maxRecDepth 20000 in
theorem gX3_needs_X3_gust : GoodIn wsX3_needs (wsV RX3 137 RX3 yX3_gust wsX3_gust) := goodIn_app (goodIn_of _ (by decide +kernel)) ggX3_needs_X3_gust
theorem dX3_needs_0 : decode cX3_needs 0 = .ok (.aload_n 0, 1) := by decide +kernel
theorem dX3_needs_1 : decode cX3_needs 1 = .ok (.iconst 0, 1) := by decide +kernel
theorem dX3_needs_2 : decode cX3_needs 2 = .ok (.putfield 34, 3) := by decide +kernel
theorem dX3_needs_5 : decode cX3_needs 5 = .ok (.aload_n 0, 1) := by decide +kernel
theorem dX3_needs_6 : decode cX3_needs 6 = .ok (.iload_n 1, 1) := by decide +kernel
theorem dX3_needs_7 : decode cX3_needs 7 = .ok (.invokevirtual 86, 3) := by decide +kernel
theorem dX3_needs_10 : decode cX3_needs 10 = .ok (.ifCond .ne 9, 3) := by decide +kernel
theorem dX3_needs_13 : decode cX3_needs 13 = .ok (.aload_n 0, 1) := by decide +kernel
theorem dX3_needs_14 : decode cX3_needs 14 = .ok (.iconst 1, 1) := by decide +kernel
theorem dX3_needs_15 : decode cX3_needs 15 = .ok (.invokevirtual 66, 3) := by decide +kernel
theorem dX3_needs_18 : decode cX3_needs 18 = .ok (.ireturn, 1) := by decide +kernel
theorem dX3_needs_19 : decode cX3_needs 19 = .ok (.iconst 0, 1) := by decide +kernel
theorem dX3_needs_20 : decode cX3_needs 20 = .ok (.istore_n 2, 1) := by decide +kernel
theorem dX3_needs_21 : decode cX3_needs 21 = .ok (.aload_n 0, 1) := by decide +kernel
theorem dX3_needs_22 : decode cX3_needs 22 = .ok (.getfield 28, 3) := by decide +kernel
theorem dX3_needs_25 : decode cX3_needs 25 = .ok (.astore_n 3, 1) := by decide +kernel
theorem dX3_needs_26 : decode cX3_needs 26 = .ok (.aload_n 3, 1) := by decide +kernel
theorem dX3_needs_27 : decode cX3_needs 27 = .ok (.arraylength, 1) := by decide +kernel
theorem dX3_needs_28 : decode cX3_needs 28 = .ok (.istore 4, 2) := by decide +kernel
theorem dX3_needs_30 : decode cX3_needs 30 = .ok (.iconst 0, 1) := by decide +kernel
theorem dX3_needs_31 : decode cX3_needs 31 = .ok (.istore 5, 2) := by decide +kernel
theorem dX3_needs_33 : decode cX3_needs 33 = .ok (.iload 5, 2) := by decide +kernel
theorem dX3_needs_35 : decode cX3_needs 35 = .ok (.iload 4, 2) := by decide +kernel
theorem dX3_needs_37 : decode cX3_needs 37 = .ok (.if_icmp .ge 27, 3) := by decide +kernel
theorem dX3_needs_40 : decode cX3_needs 40 = .ok (.aload_n 3, 1) := by decide +kernel
theorem dX3_needs_41 : decode cX3_needs 41 = .ok (.iload 5, 2) := by decide +kernel
theorem dX3_needs_43 : decode cX3_needs 43 = .ok (.iaload, 1) := by decide +kernel
theorem dX3_needs_44 : decode cX3_needs 44 = .ok (.istore 6, 2) := by decide +kernel
theorem dX3_needs_46 : decode cX3_needs 46 = .ok (.iload_n 2, 1) := by decide +kernel
theorem dX3_needs_47 : decode cX3_needs 47 = .ok (.aload_n 0, 1) := by decide +kernel
theorem dX3_needs_48 : decode cX3_needs 48 = .ok (.iload_n 1, 1) := by decide +kernel
theorem dX3_needs_49 : decode cX3_needs 49 = .ok (.iload 6, 2) := by decide +kernel
theorem dX3_needs_51 : decode cX3_needs 51 = .ok (.invokevirtual 137, 3) := by decide +kernel
theorem dX3_needs_54 : decode cX3_needs 54 = .ok (.invokestatic 58, 3) := by decide +kernel
theorem dX3_needs_57 : decode cX3_needs 57 = .ok (.istore_n 2, 1) := by decide +kernel
theorem dX3_needs_58 : decode cX3_needs 58 = .ok (.iinc 5 1, 3) := by decide +kernel
theorem dX3_needs_61 : decode cX3_needs 61 = .ok (.goto (-28), 3) := by decide +kernel
theorem dX3_needs_64 : decode cX3_needs 64 = .ok (.iconst 0, 1) := by decide +kernel
theorem dX3_needs_65 : decode cX3_needs 65 = .ok (.iload_n 2, 1) := by decide +kernel
theorem dX3_needs_66 : decode cX3_needs 66 = .ok (.iconst 4, 1) := by decide +kernel
theorem dX3_needs_67 : decode cX3_needs 67 = .ok (.isub, 1) := by decide +kernel
theorem dX3_needs_68 : decode cX3_needs 68 = .ok (.invokestatic 58, 3) := by decide +kernel
theorem dX3_needs_71 : decode cX3_needs 71 = .ok (.istore_n 3, 1) := by decide +kernel
theorem dX3_needs_72 : decode cX3_needs 72 = .ok (.iload_n 3, 1) := by decide +kernel
theorem dX3_needs_73 : decode cX3_needs 73 = .ok (.bipush 9, 2) := by decide +kernel
theorem dX3_needs_75 : decode cX3_needs 75 = .ok (.if_icmp .le 7, 3) := by decide +kernel
theorem dX3_needs_78 : decode cX3_needs 78 = .ok (.iconst (-1), 1) := by decide +kernel
theorem dX3_needs_79 : decode cX3_needs 79 = .ok (.goto 4, 3) := by decide +kernel
theorem dX3_needs_82 : decode cX3_needs 82 = .ok (.iload_n 3, 1) := by decide +kernel
theorem dX3_needs_83 : decode cX3_needs 83 = .ok (.ireturn, 1) := by decide +kernel
set_option maxRecDepth 20000 in
theorem ggX3_foresee_X3_isIn : GoodIn wsX3_foresee wsX3_isIn := goodIn_r _ [6] (by decide +kernel) (by decide +kernel)
set_option maxRecDepth 20000 in
theorem gX3_foresee_X3_isIn : GoodIn wsX3_foresee (va_wsS RX3 41 yX3_isIn wsX3_isIn) := goodIn_app (goodIn_of _ (by decide +kernel)) ggX3_foresee_X3_isIn
set_option maxRecDepth 20000 in
theorem ggX3_foresee_X3_fail : GoodIn wsX3_foresee wsX3_fail := goodIn_r _ [10, 1, 118, 119, 120, 121, 122, 123, 124, 125, 126, 127, 128, 129, 130] (by decide +kernel) (by decide +kernel)
set_option maxRecDepth 20000 in
theorem gX3_foresee_X3_fail : GoodIn wsX3_foresee (wsV RX3 66 RX3 yX3_fail wsX3_fail) := goodIn_app (goodIn_of _ (by decide +kernel)) ggX3_foresee_X3_fail
set_option maxRecDepth 20000 in
theorem ggX3_foresee_X3_kept : GoodIn wsX3_foresee wsX3_kept := goodIn_r _ [14, 15, 16, 17, 18, 19, 20, 21, 22, 2, 118, 119, 120, 121, 122, 123, 124, 125, 126, 127, 128, 129, 130] (by decide +kernel) (by decide +kernel)
set_option maxRecDepth 20000 in
theorem gX3_foresee_X3_kept : GoodIn wsX3_foresee (wsV RX3 161 RX3 yX3_kept wsX3_kept) := goodIn_app (goodIn_of _ (by decide +kernel)) ggX3_foresee_X3_kept
set_option maxRecDepth 20000 in
theorem ggX3_foresee_X3_minutesOn : GoodIn wsX3_foresee wsX3_minutesOn := goodIn_r _ [26, 27, 28, 29, 5, 30, 2, 31, 32, 33, 34, 35, 36, 37, 38, 39, 40, 41, 42, 43, 44, 45, 46, 47, 48, 22, 49, 50, 51, 52, 53, 54, 55, 56, 57, 16, 58, 59, 60, 61, 62, 63, 64, 65, 66, 67, 68, 69, 70, 71, 72, 73, 74, 75, 76, 77, 78, 79, 80, 81, 82, 83, 84, 85, 86, 87, 88, 89, 90, 91, 92, 93, 94, 95, 96, 118, 119, 120, 121, 122, 123, 124, 125, 126, 127, 128, 129, 130] (by decide +kernel) (by decide +kernel)
set_option maxRecDepth 20000 in
theorem gX3_foresee_X3_minutesOn : GoodIn wsX3_foresee (wsV RX3 153 RX3 yX3_minutesOn wsX3_minutesOn) := goodIn_app (goodIn_of _ (by decide +kernel)) ggX3_foresee_X3_minutesOn
set_option maxRecDepth 20000 in
theorem ggX3_foresee_X3_all : GoodIn wsX3_foresee wsX3_all := goodIn_r _ [100, 36, 54, 55, 56, 5, 57, 16, 118, 119, 120, 121, 122, 123, 124, 125, 126, 127, 128, 129, 130] (by decide +kernel) (by decide +kernel)
set_option maxRecDepth 20000 in
theorem gX3_foresee_X3_all : GoodIn wsX3_foresee (wsV RX3 120 RX3 yX3_all wsX3_all) := goodIn_app (goodIn_of _ (by decide +kernel)) ggX3_foresee_X3_all
set_option maxRecDepth 20000 in
theorem ggX3_foresee_X3_dark : GoodIn wsX3_foresee wsX3_dark := goodIn_r _ [104, 105, 106, 107, 108, 5, 109, 36, 54, 55, 56, 57, 16, 118, 119, 120, 121, 122, 123, 124, 125, 126, 127, 128, 129, 130] (by decide +kernel) (by decide +kernel)
set_option maxRecDepth 20000 in
theorem gX3_foresee_X3_dark : GoodIn wsX3_foresee (wsV RX3 123 RX3 yX3_dark wsX3_dark) := goodIn_app (goodIn_of _ (by decide +kernel)) ggX3_foresee_X3_dark
set_option maxRecDepth 20000 in
theorem ggX3_foresee_X3_bringBack : GoodIn wsX3_foresee wsX3_bringBack := goodIn_r _ [113, 16, 114, 115, 116, 117, 22, 2, 118, 119, 120, 121, 122, 123, 124, 125, 126, 127, 128, 129, 130] (by decide +kernel) (by decide +kernel)
set_option maxRecDepth 20000 in
theorem gX3_foresee_X3_bringBack : GoodIn wsX3_foresee (wsV RX3 165 RX3 yX3_bringBack wsX3_bringBack) := goodIn_app (goodIn_of _ (by decide +kernel)) ggX3_foresee_X3_bringBack
theorem dX3_foresee_0 : decode cX3_foresee 0 = .ok (.aload_n 0, 1) := by decide +kernel
theorem dX3_foresee_1 : decode cX3_foresee 1 = .ok (.iconst 0, 1) := by decide +kernel
theorem dX3_foresee_2 : decode cX3_foresee 2 = .ok (.putfield 34, 3) := by decide +kernel
theorem dX3_foresee_5 : decode cX3_foresee 5 = .ok (.iload_n 1, 1) := by decide +kernel
theorem dX3_foresee_6 : decode cX3_foresee 6 = .ok (.iconst 1, 1) := by decide +kernel
theorem dX3_foresee_7 : decode cX3_foresee 7 = .ok (.sipush 600, 3) := by decide +kernel
theorem dX3_foresee_10 : decode cX3_foresee 10 = .ok (.invokestatic 41, 3) := by decide +kernel
theorem dX3_foresee_13 : decode cX3_foresee 13 = .ok (.ifCond .ne 9, 3) := by decide +kernel
theorem dX3_foresee_16 : decode cX3_foresee 16 = .ok (.aload_n 0, 1) := by decide +kernel
theorem dX3_foresee_17 : decode cX3_foresee 17 = .ok (.iconst 1, 1) := by decide +kernel
theorem dX3_foresee_18 : decode cX3_foresee 18 = .ok (.invokevirtual 66, 3) := by decide +kernel
theorem dX3_foresee_21 : decode cX3_foresee 21 = .ok (.ireturn, 1) := by decide +kernel
theorem dX3_foresee_22 : decode cX3_foresee 22 = .ok (.iload_n 2, 1) := by decide +kernel
theorem dX3_foresee_23 : decode cX3_foresee 23 = .ok (.iconst 0, 1) := by decide +kernel
theorem dX3_foresee_24 : decode cX3_foresee 24 = .ok (.iconst 2, 1) := by decide +kernel
theorem dX3_foresee_25 : decode cX3_foresee 25 = .ok (.invokestatic 41, 3) := by decide +kernel
theorem dX3_foresee_28 : decode cX3_foresee 28 = .ok (.ifCond .ne 9, 3) := by decide +kernel
theorem dX3_foresee_31 : decode cX3_foresee 31 = .ok (.aload_n 0, 1) := by decide +kernel
theorem dX3_foresee_32 : decode cX3_foresee 32 = .ok (.iconst 2, 1) := by decide +kernel
theorem dX3_foresee_33 : decode cX3_foresee 33 = .ok (.invokevirtual 66, 3) := by decide +kernel
theorem dX3_foresee_36 : decode cX3_foresee 36 = .ok (.ireturn, 1) := by decide +kernel
theorem dX3_foresee_37 : decode cX3_foresee 37 = .ok (.aload_n 0, 1) := by decide +kernel
theorem dX3_foresee_38 : decode cX3_foresee 38 = .ok (.invokevirtual 161, 3) := by decide +kernel
theorem dX3_foresee_41 : decode cX3_foresee 41 = .ok (.astore_n 3, 1) := by decide +kernel
theorem dX3_foresee_42 : decode cX3_foresee 42 = .ok (.aload_n 0, 1) := by decide +kernel
theorem dX3_foresee_43 : decode cX3_foresee 43 = .ok (.getfield 31, 3) := by decide +kernel
theorem dX3_foresee_46 : decode cX3_foresee 46 = .ok (.iconst 2, 1) := by decide +kernel
theorem dX3_foresee_47 : decode cX3_foresee 47 = .ok (.iaload, 1) := by decide +kernel
theorem dX3_foresee_48 : decode cX3_foresee 48 = .ok (.istore 4, 2) := by decide +kernel
theorem dX3_foresee_50 : decode cX3_foresee 50 = .ok (.aload_n 0, 1) := by decide +kernel
theorem dX3_foresee_51 : decode cX3_foresee 51 = .ok (.iload_n 1, 1) := by decide +kernel
theorem dX3_foresee_52 : decode cX3_foresee 52 = .ok (.invokevirtual 153, 3) := by decide +kernel
theorem dX3_foresee_55 : decode cX3_foresee 55 = .ok (.iload_n 2, 1) := by decide +kernel
theorem dX3_foresee_56 : decode cX3_foresee 56 = .ok (.ifCond .ne 11, 3) := by decide +kernel
theorem dX3_foresee_59 : decode cX3_foresee 59 = .ok (.aload_n 0, 1) := by decide +kernel
theorem dX3_foresee_60 : decode cX3_foresee 60 = .ok (.iconst 5, 1) := by decide +kernel
theorem dX3_foresee_61 : decode cX3_foresee 61 = .ok (.invokevirtual 120, 3) := by decide +kernel
theorem dX3_foresee_64 : decode cX3_foresee 64 = .ok (.goto 24, 3) := by decide +kernel
theorem dX3_foresee_67 : decode cX3_foresee 67 = .ok (.iload_n 2, 1) := by decide +kernel
theorem dX3_foresee_68 : decode cX3_foresee 68 = .ok (.iconst 1, 1) := by decide +kernel
theorem dX3_foresee_69 : decode cX3_foresee 69 = .ok (.if_icmp .ne 10, 3) := by decide +kernel
theorem dX3_foresee_72 : decode cX3_foresee 72 = .ok (.aload_n 0, 1) := by decide +kernel
theorem dX3_foresee_73 : decode cX3_foresee 73 = .ok (.invokevirtual 123, 3) := by decide +kernel
theorem dX3_foresee_76 : decode cX3_foresee 76 = .ok (.goto 12, 3) := by decide +kernel
theorem dX3_foresee_79 : decode cX3_foresee 79 = .ok (.aload_n 0, 1) := by decide +kernel
theorem dX3_foresee_80 : decode cX3_foresee 80 = .ok (.getfield 31, 3) := by decide +kernel
theorem dX3_foresee_83 : decode cX3_foresee 83 = .ok (.iconst 2, 1) := by decide +kernel
theorem dX3_foresee_84 : decode cX3_foresee 84 = .ok (.iaload, 1) := by decide +kernel
theorem dX3_foresee_85 : decode cX3_foresee 85 = .ok (.iload 4, 2) := by decide +kernel
theorem dX3_foresee_87 : decode cX3_foresee 87 = .ok (.isub, 1) := by decide +kernel
theorem dX3_foresee_88 : decode cX3_foresee 88 = .ok (.istore 5, 2) := by decide +kernel
theorem dX3_foresee_90 : decode cX3_foresee 90 = .ok (.aload_n 0, 1) := by decide +kernel
theorem dX3_foresee_91 : decode cX3_foresee 91 = .ok (.aload_n 3, 1) := by decide +kernel
theorem dX3_foresee_92 : decode cX3_foresee 92 = .ok (.invokevirtual 165, 3) := by decide +kernel
theorem dX3_foresee_95 : decode cX3_foresee 95 = .ok (.iload 5, 2) := by decide +kernel
theorem dX3_foresee_97 : decode cX3_foresee 97 = .ok (.ireturn, 1) := by decide +kernel
set_option maxRecDepth 20000 in
theorem ggX3_mean_X3_all : GoodIn wsX3_mean wsX3_all := goodIn_r _ [7, 2, 8, 9, 10, 6, 11, 12, 13, 14, 15, 16, 17, 18, 19, 20, 21, 22, 23, 24, 25] (by decide +kernel) (by decide +kernel)
set_option maxRecDepth 20000 in
theorem gX3_mean_X3_all : GoodIn wsX3_mean (wsV RX3 120 RX3 yX3_all wsX3_all) := goodIn_app (goodIn_of _ (by decide +kernel)) ggX3_mean_X3_all
theorem dX3_mean_0 : decode cX3_mean 0 = .ok (.aload_n 0, 1) := by decide +kernel
theorem dX3_mean_1 : decode cX3_mean 1 = .ok (.iconst 0, 1) := by decide +kernel
theorem dX3_mean_2 : decode cX3_mean 2 = .ok (.putfield 34, 3) := by decide +kernel
theorem dX3_mean_5 : decode cX3_mean 5 = .ok (.aload_n 0, 1) := by decide +kernel
theorem dX3_mean_6 : decode cX3_mean 6 = .ok (.getfield 48, 3) := by decide +kernel
theorem dX3_mean_9 : decode cX3_mean 9 = .ok (.ifCond .ne 7, 3) := by decide +kernel
theorem dX3_mean_12 : decode cX3_mean 12 = .ok (.dconst 0, 1) := by decide +kernel
theorem dX3_mean_13 : decode cX3_mean 13 = .ok (.goto 15, 3) := by decide +kernel
theorem dX3_mean_16 : decode cX3_mean 16 = .ok (.aload_n 0, 1) := by decide +kernel
theorem dX3_mean_17 : decode cX3_mean 17 = .ok (.iconst 3, 1) := by decide +kernel
theorem dX3_mean_18 : decode cX3_mean 18 = .ok (.invokevirtual 120, 3) := by decide +kernel
theorem dX3_mean_21 : decode cX3_mean 21 = .ok (.i2d, 1) := by decide +kernel
theorem dX3_mean_22 : decode cX3_mean 22 = .ok (.aload_n 0, 1) := by decide +kernel
theorem dX3_mean_23 : decode cX3_mean 23 = .ok (.getfield 48, 3) := by decide +kernel
theorem dX3_mean_26 : decode cX3_mean 26 = .ok (.i2d, 1) := by decide +kernel
theorem dX3_mean_27 : decode cX3_mean 27 = .ok (.ddiv, 1) := by decide +kernel
theorem dX3_mean_28 : decode cX3_mean 28 = .ok (.dreturn, 1) := by decide +kernel
set_option maxRecDepth 20000 in
theorem ggX3_digest_X3_counted : GoodIn wsX3_digest wsX3_counted := goodIn_r _ [15, 16, 17, 4, 6, 7, 8, 18, 19, 20, 14, 21, 22, 23, 24, 25, 26, 27, 28, 29, 30, 31, 32, 33, 34, 57, 58, 59, 60, 61, 62, 63, 64, 65, 66, 67, 68, 69] (by decide +kernel) (by decide +kernel)
set_option maxRecDepth 20000 in
theorem gX3_digest_X3_counted : GoodIn wsX3_digest (wsV RX3 127 RX3 yX3_counted wsX3_counted) := goodIn_app (goodIn_of _ (by decide +kernel)) ggX3_digest_X3_counted
set_option maxRecDepth 20000 in
theorem ggX3_digest_X3_ro : GoodIn wsX3_digest wsX3_ro := goodIn_r _ [38, 39, 57, 58, 59, 60, 61, 62, 63, 64, 65, 66, 67, 68, 69] (by decide +kernel) (by decide +kernel)
set_option maxRecDepth 20000 in
theorem gX3_digest_X3_ro : GoodIn wsX3_digest (wsV RX3 54 RX3 yX3_ro wsX3_ro) := goodIn_app (goodIn_of _ (by decide +kernel)) ggX3_digest_X3_ro
set_option maxRecDepth 20000 in
theorem ggX3_digest_X3_burns : GoodIn wsX3_digest wsX3_burns := goodIn_r _ [34, 7, 22, 23, 24, 14, 25, 26, 57, 58, 59, 60, 61, 62, 63, 64, 65, 66, 67, 68, 69] (by decide +kernel) (by decide +kernel)
set_option maxRecDepth 20000 in
theorem gX3_digest_X3_burns : GoodIn wsX3_digest (wsV RX3 117 RX3 yX3_burns wsX3_burns) := goodIn_app (goodIn_of _ (by decide +kernel)) ggX3_digest_X3_burns
set_option maxRecDepth 20000 in
theorem ggX3_digest_X3_lampTold : GoodIn wsX3_digest wsX3_lampTold := goodIn_r _ [43, 22, 23, 24, 14, 25, 26, 44, 45, 46, 47, 8, 48, 49, 50, 51, 52, 57, 58, 59, 60, 61, 62, 63, 64, 65, 66, 67, 68, 69] (by decide +kernel) (by decide +kernel)
set_option maxRecDepth 20000 in
theorem gX3_digest_X3_lampTold : GoodIn wsX3_digest (wsV RX3 111 RX3 yX3_lampTold wsX3_lampTold) := goodIn_app (goodIn_of _ (by decide +kernel)) ggX3_digest_X3_lampTold
set_option maxRecDepth 20000 in
theorem ggX3_digest_X3_lighterTold : GoodIn wsX3_digest wsX3_lighterTold := goodIn_r _ [56, 16, 48, 49, 50, 14, 51, 52, 57, 58, 59, 60, 61, 62, 63, 64, 65, 66, 67, 68, 69] (by decide +kernel) (by decide +kernel)
set_option maxRecDepth 20000 in
theorem gX3_digest_X3_lighterTold : GoodIn wsX3_digest (wsV RX3 114 RX3 yX3_lighterTold wsX3_lighterTold) := goodIn_app (goodIn_of _ (by decide +kernel)) ggX3_digest_X3_lighterTold
set_option maxRecDepth 20000 in
theorem ggX3_digest_X3_pe : GoodIn wsX3_digest wsX3_pe := goodIn_r _ [51, 52, 57, 58, 59, 60, 61, 62, 63, 64, 65, 66, 67, 68, 69] (by decide +kernel) (by decide +kernel)
set_option maxRecDepth 20000 in
theorem gX3_digest_X3_pe : GoodIn wsX3_digest (wsV RX3 99 RX3 yX3_pe wsX3_pe) := goodIn_app (goodIn_of _ (by decide +kernel)) ggX3_digest_X3_pe
theorem dX3_digest_0 : decode cX3_digest 0 = .ok (.aload_n 0, 1) := by decide +kernel
theorem dX3_digest_1 : decode cX3_digest 1 = .ok (.iconst 0, 1) := by decide +kernel
theorem dX3_digest_2 : decode cX3_digest 2 = .ok (.putfield 34, 3) := by decide +kernel
theorem dX3_digest_5 : decode cX3_digest 5 = .ok (.ldc2_w 169, 3) := by decide +kernel
theorem dX3_digest_8 : decode cX3_digest 8 = .ok (.lstore_n 1, 1) := by decide +kernel
theorem dX3_digest_9 : decode cX3_digest 9 = .ok (.iconst 0, 1) := by decide +kernel
theorem dX3_digest_10 : decode cX3_digest 10 = .ok (.istore_n 3, 1) := by decide +kernel
theorem dX3_digest_11 : decode cX3_digest 11 = .ok (.iload_n 3, 1) := by decide +kernel
theorem dX3_digest_12 : decode cX3_digest 12 = .ok (.bipush 10, 2) := by decide +kernel
theorem dX3_digest_14 : decode cX3_digest 14 = .ok (.if_icmp .ge 22, 3) := by decide +kernel
theorem dX3_digest_17 : decode cX3_digest 17 = .ok (.lload_n 1, 1) := by decide +kernel
theorem dX3_digest_18 : decode cX3_digest 18 = .ok (.ldc2_w 171, 3) := by decide +kernel
theorem dX3_digest_21 : decode cX3_digest 21 = .ok (.lmul, 1) := by decide +kernel
theorem dX3_digest_22 : decode cX3_digest 22 = .ok (.aload_n 0, 1) := by decide +kernel
theorem dX3_digest_23 : decode cX3_digest 23 = .ok (.iload_n 3, 1) := by decide +kernel
theorem dX3_digest_24 : decode cX3_digest 24 = .ok (.invokevirtual 127, 3) := by decide +kernel
theorem dX3_digest_27 : decode cX3_digest 27 = .ok (.i2l, 1) := by decide +kernel
theorem dX3_digest_28 : decode cX3_digest 28 = .ok (.ladd, 1) := by decide +kernel
theorem dX3_digest_29 : decode cX3_digest 29 = .ok (.lstore_n 1, 1) := by decide +kernel
theorem dX3_digest_30 : decode cX3_digest 30 = .ok (.iinc 3 1, 3) := by decide +kernel
theorem dX3_digest_33 : decode cX3_digest 33 = .ok (.goto (-22), 3) := by decide +kernel
theorem dX3_digest_36 : decode cX3_digest 36 = .ok (.iconst 0, 1) := by decide +kernel
theorem dX3_digest_37 : decode cX3_digest 37 = .ok (.istore_n 3, 1) := by decide +kernel
theorem dX3_digest_38 : decode cX3_digest 38 = .ok (.iload_n 3, 1) := by decide +kernel
theorem dX3_digest_39 : decode cX3_digest 39 = .ok (.aload_n 0, 1) := by decide +kernel
theorem dX3_digest_40 : decode cX3_digest 40 = .ok (.getfield 38, 3) := by decide +kernel
theorem dX3_digest_43 : decode cX3_digest 43 = .ok (.if_icmp .ge 23, 3) := by decide +kernel
theorem dX3_digest_46 : decode cX3_digest 46 = .ok (.lload_n 1, 1) := by decide +kernel
theorem dX3_digest_47 : decode cX3_digest 47 = .ok (.ldc2_w 171, 3) := by decide +kernel
theorem dX3_digest_50 : decode cX3_digest 50 = .ok (.lmul, 1) := by decide +kernel
theorem dX3_digest_51 : decode cX3_digest 51 = .ok (.aload_n 0, 1) := by decide +kernel
theorem dX3_digest_52 : decode cX3_digest 52 = .ok (.getfield 9, 3) := by decide +kernel
theorem dX3_digest_55 : decode cX3_digest 55 = .ok (.iload_n 3, 1) := by decide +kernel
theorem dX3_digest_56 : decode cX3_digest 56 = .ok (.iaload, 1) := by decide +kernel
theorem dX3_digest_57 : decode cX3_digest 57 = .ok (.i2l, 1) := by decide +kernel
theorem dX3_digest_58 : decode cX3_digest 58 = .ok (.ladd, 1) := by decide +kernel
theorem dX3_digest_59 : decode cX3_digest 59 = .ok (.lstore_n 1, 1) := by decide +kernel
theorem dX3_digest_60 : decode cX3_digest 60 = .ok (.iinc 3 1, 3) := by decide +kernel
theorem dX3_digest_63 : decode cX3_digest 63 = .ok (.goto (-25), 3) := by decide +kernel
theorem dX3_digest_66 : decode cX3_digest 66 = .ok (.iconst 0, 1) := by decide +kernel
theorem dX3_digest_67 : decode cX3_digest 67 = .ok (.istore_n 3, 1) := by decide +kernel
theorem dX3_digest_68 : decode cX3_digest 68 = .ok (.iload_n 3, 1) := by decide +kernel
theorem dX3_digest_69 : decode cX3_digest 69 = .ok (.aload_n 0, 1) := by decide +kernel
theorem dX3_digest_70 : decode cX3_digest 70 = .ok (.getfield 45, 3) := by decide +kernel
theorem dX3_digest_73 : decode cX3_digest 73 = .ok (.if_icmp .ge 52, 3) := by decide +kernel
theorem dX3_digest_76 : decode cX3_digest 76 = .ok (.iconst 0, 1) := by decide +kernel
theorem dX3_digest_77 : decode cX3_digest 77 = .ok (.istore 4, 2) := by decide +kernel
theorem dX3_digest_79 : decode cX3_digest 79 = .ok (.iload 4, 2) := by decide +kernel
theorem dX3_digest_81 : decode cX3_digest 81 = .ok (.iconst 3, 1) := by decide +kernel
theorem dX3_digest_82 : decode cX3_digest 82 = .ok (.if_icmp .ge 24, 3) := by decide +kernel
theorem dX3_digest_85 : decode cX3_digest 85 = .ok (.lload_n 1, 1) := by decide +kernel
theorem dX3_digest_86 : decode cX3_digest 86 = .ok (.ldc2_w 171, 3) := by decide +kernel
theorem dX3_digest_89 : decode cX3_digest 89 = .ok (.lmul, 1) := by decide +kernel
theorem dX3_digest_90 : decode cX3_digest 90 = .ok (.aload_n 0, 1) := by decide +kernel
theorem dX3_digest_91 : decode cX3_digest 91 = .ok (.iload_n 3, 1) := by decide +kernel
theorem dX3_digest_92 : decode cX3_digest 92 = .ok (.iload 4, 2) := by decide +kernel
theorem dX3_digest_94 : decode cX3_digest 94 = .ok (.invokevirtual 54, 3) := by decide +kernel
theorem dX3_digest_97 : decode cX3_digest 97 = .ok (.i2l, 1) := by decide +kernel
theorem dX3_digest_98 : decode cX3_digest 98 = .ok (.ladd, 1) := by decide +kernel
theorem dX3_digest_99 : decode cX3_digest 99 = .ok (.lstore_n 1, 1) := by decide +kernel
theorem dX3_digest_100 : decode cX3_digest 100 = .ok (.iinc 4 1, 3) := by decide +kernel
theorem dX3_digest_103 : decode cX3_digest 103 = .ok (.goto (-24), 3) := by decide +kernel
theorem dX3_digest_106 : decode cX3_digest 106 = .ok (.lload_n 1, 1) := by decide +kernel
theorem dX3_digest_107 : decode cX3_digest 107 = .ok (.ldc2_w 171, 3) := by decide +kernel
theorem dX3_digest_110 : decode cX3_digest 110 = .ok (.lmul, 1) := by decide +kernel
theorem dX3_digest_111 : decode cX3_digest 111 = .ok (.aload_n 0, 1) := by decide +kernel
theorem dX3_digest_112 : decode cX3_digest 112 = .ok (.iload_n 3, 1) := by decide +kernel
theorem dX3_digest_113 : decode cX3_digest 113 = .ok (.invokevirtual 117, 3) := by decide +kernel
theorem dX3_digest_116 : decode cX3_digest 116 = .ok (.i2l, 1) := by decide +kernel
theorem dX3_digest_117 : decode cX3_digest 117 = .ok (.ladd, 1) := by decide +kernel
theorem dX3_digest_118 : decode cX3_digest 118 = .ok (.lstore_n 1, 1) := by decide +kernel
theorem dX3_digest_119 : decode cX3_digest 119 = .ok (.iinc 3 1, 3) := by decide +kernel
theorem dX3_digest_122 : decode cX3_digest 122 = .ok (.goto (-54), 3) := by decide +kernel
theorem dX3_digest_125 : decode cX3_digest 125 = .ok (.iconst 0, 1) := by decide +kernel
theorem dX3_digest_126 : decode cX3_digest 126 = .ok (.istore_n 3, 1) := by decide +kernel
theorem dX3_digest_127 : decode cX3_digest 127 = .ok (.iload_n 3, 1) := by decide +kernel
theorem dX3_digest_128 : decode cX3_digest 128 = .ok (.aload_n 0, 1) := by decide +kernel
theorem dX3_digest_129 : decode cX3_digest 129 = .ok (.getfield 48, 3) := by decide +kernel
theorem dX3_digest_132 : decode cX3_digest 132 = .ok (.if_icmp .ge 40, 3) := by decide +kernel
theorem dX3_digest_135 : decode cX3_digest 135 = .ok (.iconst 0, 1) := by decide +kernel
theorem dX3_digest_136 : decode cX3_digest 136 = .ok (.istore 4, 2) := by decide +kernel
theorem dX3_digest_138 : decode cX3_digest 138 = .ok (.iload 4, 2) := by decide +kernel
theorem dX3_digest_140 : decode cX3_digest 140 = .ok (.bipush 9, 2) := by decide +kernel
theorem dX3_digest_142 : decode cX3_digest 142 = .ok (.if_icmp .ge 24, 3) := by decide +kernel
theorem dX3_digest_145 : decode cX3_digest 145 = .ok (.lload_n 1, 1) := by decide +kernel
theorem dX3_digest_146 : decode cX3_digest 146 = .ok (.ldc2_w 171, 3) := by decide +kernel
theorem dX3_digest_149 : decode cX3_digest 149 = .ok (.lmul, 1) := by decide +kernel
theorem dX3_digest_150 : decode cX3_digest 150 = .ok (.aload_n 0, 1) := by decide +kernel
theorem dX3_digest_151 : decode cX3_digest 151 = .ok (.iload_n 3, 1) := by decide +kernel
theorem dX3_digest_152 : decode cX3_digest 152 = .ok (.iload 4, 2) := by decide +kernel
theorem dX3_digest_154 : decode cX3_digest 154 = .ok (.invokevirtual 111, 3) := by decide +kernel
theorem dX3_digest_157 : decode cX3_digest 157 = .ok (.i2l, 1) := by decide +kernel
theorem dX3_digest_158 : decode cX3_digest 158 = .ok (.ladd, 1) := by decide +kernel
theorem dX3_digest_159 : decode cX3_digest 159 = .ok (.lstore_n 1, 1) := by decide +kernel
theorem dX3_digest_160 : decode cX3_digest 160 = .ok (.iinc 4 1, 3) := by decide +kernel
theorem dX3_digest_163 : decode cX3_digest 163 = .ok (.goto (-25), 3) := by decide +kernel
theorem dX3_digest_166 : decode cX3_digest 166 = .ok (.iinc 3 1, 3) := by decide +kernel
theorem dX3_digest_169 : decode cX3_digest 169 = .ok (.goto (-42), 3) := by decide +kernel
theorem dX3_digest_172 : decode cX3_digest 172 = .ok (.iconst 0, 1) := by decide +kernel
theorem dX3_digest_173 : decode cX3_digest 173 = .ok (.istore_n 3, 1) := by decide +kernel
theorem dX3_digest_174 : decode cX3_digest 174 = .ok (.iload_n 3, 1) := by decide +kernel
theorem dX3_digest_175 : decode cX3_digest 175 = .ok (.aload_n 0, 1) := by decide +kernel
theorem dX3_digest_176 : decode cX3_digest 176 = .ok (.getfield 51, 3) := by decide +kernel
theorem dX3_digest_179 : decode cX3_digest 179 = .ok (.if_icmp .ge 80, 3) := by decide +kernel
theorem dX3_digest_182 : decode cX3_digest 182 = .ok (.iconst 0, 1) := by decide +kernel
theorem dX3_digest_183 : decode cX3_digest 183 = .ok (.istore 4, 2) := by decide +kernel
theorem dX3_digest_185 : decode cX3_digest 185 = .ok (.iload 4, 2) := by decide +kernel
theorem dX3_digest_187 : decode cX3_digest 187 = .ok (.bipush 7, 2) := by decide +kernel
theorem dX3_digest_189 : decode cX3_digest 189 = .ok (.if_icmp .ge 24, 3) := by decide +kernel
theorem dX3_digest_192 : decode cX3_digest 192 = .ok (.lload_n 1, 1) := by decide +kernel
theorem dX3_digest_193 : decode cX3_digest 193 = .ok (.ldc2_w 171, 3) := by decide +kernel
theorem dX3_digest_196 : decode cX3_digest 196 = .ok (.lmul, 1) := by decide +kernel
theorem dX3_digest_197 : decode cX3_digest 197 = .ok (.aload_n 0, 1) := by decide +kernel
theorem dX3_digest_198 : decode cX3_digest 198 = .ok (.iload_n 3, 1) := by decide +kernel
theorem dX3_digest_199 : decode cX3_digest 199 = .ok (.iload 4, 2) := by decide +kernel
theorem dX3_digest_201 : decode cX3_digest 201 = .ok (.invokevirtual 114, 3) := by decide +kernel
theorem dX3_digest_204 : decode cX3_digest 204 = .ok (.i2l, 1) := by decide +kernel
theorem dX3_digest_205 : decode cX3_digest 205 = .ok (.ladd, 1) := by decide +kernel
theorem dX3_digest_206 : decode cX3_digest 206 = .ok (.lstore_n 1, 1) := by decide +kernel
theorem dX3_digest_207 : decode cX3_digest 207 = .ok (.iinc 4 1, 3) := by decide +kernel
theorem dX3_digest_210 : decode cX3_digest 210 = .ok (.goto (-25), 3) := by decide +kernel
theorem dX3_digest_213 : decode cX3_digest 213 = .ok (.iconst 0, 1) := by decide +kernel
theorem dX3_digest_214 : decode cX3_digest 214 = .ok (.istore 4, 2) := by decide +kernel
theorem dX3_digest_216 : decode cX3_digest 216 = .ok (.iload 4, 2) := by decide +kernel
theorem dX3_digest_218 : decode cX3_digest 218 = .ok (.aload_n 0, 1) := by decide +kernel
theorem dX3_digest_219 : decode cX3_digest 219 = .ok (.iload_n 3, 1) := by decide +kernel
theorem dX3_digest_220 : decode cX3_digest 220 = .ok (.iconst 4, 1) := by decide +kernel
theorem dX3_digest_221 : decode cX3_digest 221 = .ok (.invokevirtual 99, 3) := by decide +kernel
theorem dX3_digest_224 : decode cX3_digest 224 = .ok (.if_icmp .ge 29, 3) := by decide +kernel
theorem dX3_digest_227 : decode cX3_digest 227 = .ok (.lload_n 1, 1) := by decide +kernel
theorem dX3_digest_228 : decode cX3_digest 228 = .ok (.ldc2_w 171, 3) := by decide +kernel
theorem dX3_digest_231 : decode cX3_digest 231 = .ok (.lmul, 1) := by decide +kernel
theorem dX3_digest_232 : decode cX3_digest 232 = .ok (.aload_n 0, 1) := by decide +kernel
theorem dX3_digest_233 : decode cX3_digest 233 = .ok (.getfield 25, 3) := by decide +kernel
theorem dX3_digest_236 : decode cX3_digest 236 = .ok (.bipush 10, 2) := by decide +kernel
theorem dX3_digest_238 : decode cX3_digest 238 = .ok (.iload_n 3, 1) := by decide +kernel
theorem dX3_digest_239 : decode cX3_digest 239 = .ok (.imul, 1) := by decide +kernel
theorem dX3_digest_240 : decode cX3_digest 240 = .ok (.iload 4, 2) := by decide +kernel
theorem dX3_digest_242 : decode cX3_digest 242 = .ok (.iadd, 1) := by decide +kernel
theorem dX3_digest_243 : decode cX3_digest 243 = .ok (.iaload, 1) := by decide +kernel
theorem dX3_digest_244 : decode cX3_digest 244 = .ok (.i2l, 1) := by decide +kernel
theorem dX3_digest_245 : decode cX3_digest 245 = .ok (.ladd, 1) := by decide +kernel
theorem dX3_digest_246 : decode cX3_digest 246 = .ok (.lstore_n 1, 1) := by decide +kernel
theorem dX3_digest_247 : decode cX3_digest 247 = .ok (.iinc 4 1, 3) := by decide +kernel
theorem dX3_digest_250 : decode cX3_digest 250 = .ok (.goto (-34), 3) := by decide +kernel
theorem dX3_digest_253 : decode cX3_digest 253 = .ok (.iinc 3 1, 3) := by decide +kernel
theorem dX3_digest_256 : decode cX3_digest 256 = .ok (.goto (-82), 3) := by decide +kernel
theorem dX3_digest_259 : decode cX3_digest 259 = .ok (.aload_n 0, 1) := by decide +kernel
theorem dX3_digest_260 : decode cX3_digest 260 = .ok (.getfield 28, 3) := by decide +kernel
theorem dX3_digest_263 : decode cX3_digest 263 = .ok (.astore_n 3, 1) := by decide +kernel
theorem dX3_digest_264 : decode cX3_digest 264 = .ok (.aload_n 3, 1) := by decide +kernel
theorem dX3_digest_265 : decode cX3_digest 265 = .ok (.arraylength, 1) := by decide +kernel
theorem dX3_digest_266 : decode cX3_digest 266 = .ok (.istore 4, 2) := by decide +kernel
theorem dX3_digest_268 : decode cX3_digest 268 = .ok (.iconst 0, 1) := by decide +kernel
theorem dX3_digest_269 : decode cX3_digest 269 = .ok (.istore 5, 2) := by decide +kernel
theorem dX3_digest_271 : decode cX3_digest 271 = .ok (.iload 5, 2) := by decide +kernel
theorem dX3_digest_273 : decode cX3_digest 273 = .ok (.iload 4, 2) := by decide +kernel
theorem dX3_digest_275 : decode cX3_digest 275 = .ok (.if_icmp .ge 25, 3) := by decide +kernel
theorem dX3_digest_278 : decode cX3_digest 278 = .ok (.aload_n 3, 1) := by decide +kernel
theorem dX3_digest_279 : decode cX3_digest 279 = .ok (.iload 5, 2) := by decide +kernel
theorem dX3_digest_281 : decode cX3_digest 281 = .ok (.iaload, 1) := by decide +kernel
theorem dX3_digest_282 : decode cX3_digest 282 = .ok (.istore 6, 2) := by decide +kernel
theorem dX3_digest_284 : decode cX3_digest 284 = .ok (.lload_n 1, 1) := by decide +kernel
theorem dX3_digest_285 : decode cX3_digest 285 = .ok (.ldc2_w 171, 3) := by decide +kernel
theorem dX3_digest_288 : decode cX3_digest 288 = .ok (.lmul, 1) := by decide +kernel
theorem dX3_digest_289 : decode cX3_digest 289 = .ok (.iload 6, 2) := by decide +kernel
theorem dX3_digest_291 : decode cX3_digest 291 = .ok (.i2l, 1) := by decide +kernel
theorem dX3_digest_292 : decode cX3_digest 292 = .ok (.ladd, 1) := by decide +kernel
theorem dX3_digest_293 : decode cX3_digest 293 = .ok (.lstore_n 1, 1) := by decide +kernel
theorem dX3_digest_294 : decode cX3_digest 294 = .ok (.iinc 5 1, 3) := by decide +kernel
theorem dX3_digest_297 : decode cX3_digest 297 = .ok (.goto (-26), 3) := by decide +kernel
theorem dX3_digest_300 : decode cX3_digest 300 = .ok (.lload_n 1, 1) := by decide +kernel
theorem dX3_digest_301 : decode cX3_digest 301 = .ok (.lreturn, 1) := by decide +kernel
theorem dJ9_max_7cf53_0 : decode cJ9_max_7cf53 0 = .ok (.iload_n 0, 1) := by decide +kernel
theorem dJ9_max_7cf53_1 : decode cJ9_max_7cf53 1 = .ok (.iload_n 1, 1) := by decide +kernel
theorem dJ9_max_7cf53_2 : decode cJ9_max_7cf53 2 = .ok (.if_icmp .lt 7, 3) := by decide +kernel
theorem dJ9_max_7cf53_5 : decode cJ9_max_7cf53 5 = .ok (.iload_n 0, 1) := by decide +kernel
theorem dJ9_max_7cf53_6 : decode cJ9_max_7cf53 6 = .ok (.goto 4, 3) := by decide +kernel
theorem dJ9_max_7cf53_9 : decode cJ9_max_7cf53 9 = .ok (.iload_n 1, 1) := by decide +kernel
theorem dJ9_max_7cf53_10 : decode cJ9_max_7cf53 10 = .ok (.ireturn, 1) := by decide +kernel
theorem dJ9_min_7cf53_0 : decode cJ9_min_7cf53 0 = .ok (.iload_n 0, 1) := by decide +kernel
theorem dJ9_min_7cf53_1 : decode cJ9_min_7cf53 1 = .ok (.iload_n 1, 1) := by decide +kernel
theorem dJ9_min_7cf53_2 : decode cJ9_min_7cf53 2 = .ok (.if_icmp .gt 7, 3) := by decide +kernel
theorem dJ9_min_7cf53_5 : decode cJ9_min_7cf53 5 = .ok (.iload_n 0, 1) := by decide +kernel
theorem dJ9_min_7cf53_6 : decode cJ9_min_7cf53 6 = .ok (.goto 4, 3) := by decide +kernel
theorem dJ9_min_7cf53_9 : decode cJ9_min_7cf53 9 = .ok (.iload_n 1, 1) := by decide +kernel
theorem dJ9_min_7cf53_10 : decode cJ9_min_7cf53 10 = .ok (.ireturn, 1) := by decide +kernel
set_option maxRecDepth 20000 in
theorem ggL_corner_X2_corner : GoodIn wsL_corner wsX2_corner := goodIn_ca (goodIn_ca (goodIn_r _ [7, 8, 9, 10, 11, 6, 12, 13, 14, 15, 16, 17, 18, 19, 20, 21, 22, 23, 24, 25, 26, 27, 28, 29, 30, 31, 32, 33, 34, 35, 36, 37, 38, 39, 40, 41, 42, 43, 44, 45, 46, 47, 48, 49] (by decide +kernel) (by decide +kernel)) (goodIn_sub (fun _ h => List.mem_cons_of_mem _ (List.mem_append_left _ (List.mem_append_right _ h))) (by decide +kernel))) (goodIn_sub (fun _ h => List.mem_cons_of_mem _ (List.mem_append_right _ h)) (by decide +kernel))
set_option maxRecDepth 20000 in
theorem gL_corner_X2_corner : GoodIn wsL_corner (wsV RL 7 RX2 yX2_corner wsX2_corner) := goodIn_app (goodIn_of _ (by decide +kernel)) ggL_corner_X2_corner
theorem dL_corner_0 : decode cL_corner 0 = .ok (.aload_n 2, 1) := by decide +kernel
theorem dL_corner_1 : decode cL_corner 1 = .ok (.iconst 0, 1) := by decide +kernel
theorem dL_corner_2 : decode cL_corner 2 = .ok (.aload_n 0, 1) := by decide +kernel
theorem dL_corner_3 : decode cL_corner 3 = .ok (.iload_n 1, 1) := by decide +kernel
theorem dL_corner_4 : decode cL_corner 4 = .ok (.invokevirtual 7, 3) := by decide +kernel
theorem dL_corner_7 : decode cL_corner 7 = .ok (.i2l, 1) := by decide +kernel
theorem dL_corner_8 : decode cL_corner 8 = .ok (.lastore, 1) := by decide +kernel
theorem dL_corner_9 : decode cL_corner 9 = .ok (.goto 9, 3) := by decide +kernel
theorem dL_corner_12 : decode cL_corner 12 = .ok (.astore_n 3, 1) := by decide +kernel
theorem dL_corner_13 : decode cL_corner 13 = .ok (.iconst 1, 1) := by decide +kernel
theorem dL_corner_14 : decode cL_corner 14 = .ok (.ireturn, 1) := by decide +kernel
theorem dL_corner_15 : decode cL_corner 15 = .ok (.astore_n 3, 1) := by decide +kernel
theorem dL_corner_16 : decode cL_corner 16 = .ok (.iconst 2, 1) := by decide +kernel
theorem dL_corner_17 : decode cL_corner 17 = .ok (.ireturn, 1) := by decide +kernel
theorem dL_corner_18 : decode cL_corner 18 = .ok (.iconst 0, 1) := by decide +kernel
theorem dL_corner_19 : decode cL_corner 19 = .ok (.ireturn, 1) := by decide +kernel
set_option maxRecDepth 20000 in
theorem ggL_street_X2_street : GoodIn wsL_street wsX2_street := goodIn_ca (goodIn_ca (goodIn_ca (goodIn_r _ [8, 9, 10, 11, 12, 13, 14, 15, 7, 16, 17, 18, 19, 20, 21, 22, 23, 24, 25, 26, 27, 28, 29, 30, 31, 32, 33, 34, 35, 36, 37, 38, 39, 40, 41, 42, 43, 44, 45, 46, 47, 48, 49, 50, 51, 52, 53, 54, 55, 56, 57, 58, 59, 60, 61, 62, 63, 64, 65, 66, 67, 68, 69, 70, 71, 72, 73, 74] (by decide +kernel) (by decide +kernel)) (goodIn_sub (fun _ h => List.mem_cons_of_mem _ (List.mem_append_left _ (List.mem_append_left _ (List.mem_append_right _ h)))) (by decide +kernel))) (goodIn_sub (fun _ h => List.mem_cons_of_mem _ (List.mem_append_left _ (List.mem_append_right _ h))) (by decide +kernel))) (goodIn_sub (fun _ h => List.mem_cons_of_mem _ (List.mem_append_right _ h)) (by decide +kernel))
set_option maxRecDepth 20000 in
theorem gL_street_X2_street : GoodIn wsL_street (wsV RL 17 RX2 yX2_street wsX2_street) := goodIn_app (goodIn_of _ (by decide +kernel)) ggL_street_X2_street
theorem dL_street_0 : decode cL_street 0 = .ok (.aload 4, 2) := by decide +kernel
theorem dL_street_2 : decode cL_street 2 = .ok (.iconst 0, 1) := by decide +kernel
theorem dL_street_3 : decode cL_street 3 = .ok (.aload_n 0, 1) := by decide +kernel
theorem dL_street_4 : decode cL_street 4 = .ok (.iload_n 1, 1) := by decide +kernel
theorem dL_street_5 : decode cL_street 5 = .ok (.iload_n 2, 1) := by decide +kernel
theorem dL_street_6 : decode cL_street 6 = .ok (.iload_n 3, 1) := by decide +kernel
theorem dL_street_7 : decode cL_street 7 = .ok (.invokevirtual 17, 3) := by decide +kernel
theorem dL_street_10 : decode cL_street 10 = .ok (.i2l, 1) := by decide +kernel
theorem dL_street_11 : decode cL_street 11 = .ok (.lastore, 1) := by decide +kernel
theorem dL_street_12 : decode cL_street 12 = .ok (.goto 15, 3) := by decide +kernel
theorem dL_street_15 : decode cL_street 15 = .ok (.astore 5, 2) := by decide +kernel
theorem dL_street_17 : decode cL_street 17 = .ok (.iconst 1, 1) := by decide +kernel
theorem dL_street_18 : decode cL_street 18 = .ok (.ireturn, 1) := by decide +kernel
theorem dL_street_19 : decode cL_street 19 = .ok (.astore 5, 2) := by decide +kernel
theorem dL_street_21 : decode cL_street 21 = .ok (.iconst 2, 1) := by decide +kernel
theorem dL_street_22 : decode cL_street 22 = .ok (.ireturn, 1) := by decide +kernel
theorem dL_street_23 : decode cL_street 23 = .ok (.astore 5, 2) := by decide +kernel
theorem dL_street_25 : decode cL_street 25 = .ok (.iconst 3, 1) := by decide +kernel
theorem dL_street_26 : decode cL_street 26 = .ok (.ireturn, 1) := by decide +kernel
theorem dL_street_27 : decode cL_street 27 = .ok (.iconst 0, 1) := by decide +kernel
theorem dL_street_28 : decode cL_street 28 = .ok (.ireturn, 1) := by decide +kernel
set_option maxRecDepth 20000 in
theorem ggL_lamp_X2_lamp : GoodIn wsL_lamp wsX2_lamp := goodIn_ca (goodIn_ca (goodIn_ca (goodIn_r _ [8, 9, 10, 11, 12, 13, 7, 14, 15, 16, 17, 18, 19, 20, 21, 22, 23, 24, 25, 26, 27, 28, 29, 30, 31, 32, 33, 34, 35, 36, 37, 38, 39, 40, 41, 42, 43, 44, 45, 46, 47, 48, 49, 50, 51, 52, 53, 54, 55] (by decide +kernel) (by decide +kernel)) (goodIn_sub (fun _ h => List.mem_cons_of_mem _ (List.mem_append_left _ (List.mem_append_left _ (List.mem_append_right _ h)))) (by decide +kernel))) (goodIn_sub (fun _ h => List.mem_cons_of_mem _ (List.mem_append_left _ (List.mem_append_right _ h))) (by decide +kernel))) (goodIn_sub (fun _ h => List.mem_cons_of_mem _ (List.mem_append_right _ h)) (by decide +kernel))
set_option maxRecDepth 20000 in
theorem gL_lamp_X2_lamp : GoodIn wsL_lamp (wsV RL 23 RX2 yX2_lamp wsX2_lamp) := goodIn_app (goodIn_of _ (by decide +kernel)) ggL_lamp_X2_lamp
theorem dL_lamp_0 : decode cL_lamp 0 = .ok (.aload_n 3, 1) := by decide +kernel
theorem dL_lamp_1 : decode cL_lamp 1 = .ok (.iconst 0, 1) := by decide +kernel
theorem dL_lamp_2 : decode cL_lamp 2 = .ok (.aload_n 0, 1) := by decide +kernel
theorem dL_lamp_3 : decode cL_lamp 3 = .ok (.iload_n 1, 1) := by decide +kernel
theorem dL_lamp_4 : decode cL_lamp 4 = .ok (.iload_n 2, 1) := by decide +kernel
theorem dL_lamp_5 : decode cL_lamp 5 = .ok (.invokevirtual 23, 3) := by decide +kernel
theorem dL_lamp_8 : decode cL_lamp 8 = .ok (.i2l, 1) := by decide +kernel
theorem dL_lamp_9 : decode cL_lamp 9 = .ok (.lastore, 1) := by decide +kernel
theorem dL_lamp_10 : decode cL_lamp 10 = .ok (.goto 15, 3) := by decide +kernel
theorem dL_lamp_13 : decode cL_lamp 13 = .ok (.astore 4, 2) := by decide +kernel
theorem dL_lamp_15 : decode cL_lamp 15 = .ok (.iconst 1, 1) := by decide +kernel
theorem dL_lamp_16 : decode cL_lamp 16 = .ok (.ireturn, 1) := by decide +kernel
theorem dL_lamp_17 : decode cL_lamp 17 = .ok (.astore 4, 2) := by decide +kernel
theorem dL_lamp_19 : decode cL_lamp 19 = .ok (.iconst 2, 1) := by decide +kernel
theorem dL_lamp_20 : decode cL_lamp 20 = .ok (.ireturn, 1) := by decide +kernel
theorem dL_lamp_21 : decode cL_lamp 21 = .ok (.astore 4, 2) := by decide +kernel
theorem dL_lamp_23 : decode cL_lamp 23 = .ok (.iconst 3, 1) := by decide +kernel
theorem dL_lamp_24 : decode cL_lamp 24 = .ok (.ireturn, 1) := by decide +kernel
theorem dL_lamp_25 : decode cL_lamp 25 = .ok (.iconst 0, 1) := by decide +kernel
theorem dL_lamp_26 : decode cL_lamp 26 = .ok (.ireturn, 1) := by decide +kernel
set_option maxRecDepth 20000 in
theorem ggL_lid_X2_lid : GoodIn wsL_lid wsX2_lid := goodIn_ca (goodIn_ca (goodIn_r _ [7, 8, 9, 10, 11, 12, 6, 13, 14, 15, 16, 17, 18, 19, 20, 21, 22, 23, 24, 25, 26, 27, 28, 29, 30, 31, 32, 33, 34, 35, 36, 37, 38, 39, 40, 41] (by decide +kernel) (by decide +kernel)) (goodIn_sub (fun _ h => List.mem_cons_of_mem _ (List.mem_append_left _ (List.mem_append_right _ h))) (by decide +kernel))) (goodIn_sub (fun _ h => List.mem_cons_of_mem _ (List.mem_append_right _ h)) (by decide +kernel))
set_option maxRecDepth 20000 in
theorem gL_lid_X2_lid : GoodIn wsL_lid (wsV RL 27 RX2 yX2_lid wsX2_lid) := goodIn_app (goodIn_of _ (by decide +kernel)) ggL_lid_X2_lid
theorem dL_lid_0 : decode cL_lid 0 = .ok (.aload_n 3, 1) := by decide +kernel
theorem dL_lid_1 : decode cL_lid 1 = .ok (.iconst 0, 1) := by decide +kernel
theorem dL_lid_2 : decode cL_lid 2 = .ok (.aload_n 0, 1) := by decide +kernel
theorem dL_lid_3 : decode cL_lid 3 = .ok (.iload_n 1, 1) := by decide +kernel
theorem dL_lid_4 : decode cL_lid 4 = .ok (.iload_n 2, 1) := by decide +kernel
theorem dL_lid_5 : decode cL_lid 5 = .ok (.invokevirtual 27, 3) := by decide +kernel
theorem dL_lid_8 : decode cL_lid 8 = .ok (.i2l, 1) := by decide +kernel
theorem dL_lid_9 : decode cL_lid 9 = .ok (.lastore, 1) := by decide +kernel
theorem dL_lid_10 : decode cL_lid 10 = .ok (.goto 11, 3) := by decide +kernel
theorem dL_lid_13 : decode cL_lid 13 = .ok (.astore 4, 2) := by decide +kernel
theorem dL_lid_15 : decode cL_lid 15 = .ok (.iconst 1, 1) := by decide +kernel
theorem dL_lid_16 : decode cL_lid 16 = .ok (.ireturn, 1) := by decide +kernel
theorem dL_lid_17 : decode cL_lid 17 = .ok (.astore 4, 2) := by decide +kernel
theorem dL_lid_19 : decode cL_lid 19 = .ok (.iconst 2, 1) := by decide +kernel
theorem dL_lid_20 : decode cL_lid 20 = .ok (.ireturn, 1) := by decide +kernel
theorem dL_lid_21 : decode cL_lid 21 = .ok (.iconst 0, 1) := by decide +kernel
theorem dL_lid_22 : decode cL_lid 22 = .ok (.ireturn, 1) := by decide +kernel
set_option maxRecDepth 20000 in
theorem ggL_setWind_X2_setWind : GoodIn wsL_setWind wsX2_setWind := goodIn_ca (goodIn_ca (goodIn_r _ [7, 8, 9, 10, 11, 6, 12, 13, 14, 15, 16, 17, 18, 19, 20, 21, 22, 23, 24, 25, 26, 27, 28, 29, 30, 31, 32, 33, 34, 35, 36, 37, 38, 39, 40] (by decide +kernel) (by decide +kernel)) (goodIn_sub (fun _ h => List.mem_cons_of_mem _ (List.mem_append_left _ (List.mem_append_right _ h))) (by decide +kernel))) (goodIn_sub (fun _ h => List.mem_cons_of_mem _ (List.mem_append_right _ h)) (by decide +kernel))
set_option maxRecDepth 20000 in
theorem gL_setWind_X2_setWind : GoodIn wsL_setWind (wsV RL 30 RX2 yX2_setWind wsX2_setWind) := goodIn_app (goodIn_of _ (by decide +kernel)) ggL_setWind_X2_setWind
theorem dL_setWind_0 : decode cL_setWind 0 = .ok (.aload_n 3, 1) := by decide +kernel
theorem dL_setWind_1 : decode cL_setWind 1 = .ok (.iconst 0, 1) := by decide +kernel
theorem dL_setWind_2 : decode cL_setWind 2 = .ok (.aload_n 0, 1) := by decide +kernel
theorem dL_setWind_3 : decode cL_setWind 3 = .ok (.iload_n 1, 1) := by decide +kernel
theorem dL_setWind_4 : decode cL_setWind 4 = .ok (.iload_n 2, 1) := by decide +kernel
theorem dL_setWind_5 : decode cL_setWind 5 = .ok (.invokevirtual 30, 3) := by decide +kernel
theorem dL_setWind_8 : decode cL_setWind 8 = .ok (.i2l, 1) := by decide +kernel
theorem dL_setWind_9 : decode cL_setWind 9 = .ok (.lastore, 1) := by decide +kernel
theorem dL_setWind_10 : decode cL_setWind 10 = .ok (.goto 11, 3) := by decide +kernel
theorem dL_setWind_13 : decode cL_setWind 13 = .ok (.astore 4, 2) := by decide +kernel
theorem dL_setWind_15 : decode cL_setWind 15 = .ok (.iconst 1, 1) := by decide +kernel
theorem dL_setWind_16 : decode cL_setWind 16 = .ok (.ireturn, 1) := by decide +kernel
theorem dL_setWind_17 : decode cL_setWind 17 = .ok (.astore 4, 2) := by decide +kernel
theorem dL_setWind_19 : decode cL_setWind 19 = .ok (.iconst 2, 1) := by decide +kernel
theorem dL_setWind_20 : decode cL_setWind 20 = .ok (.ireturn, 1) := by decide +kernel
theorem dL_setWind_21 : decode cL_setWind 21 = .ok (.iconst 0, 1) := by decide +kernel
theorem dL_setWind_22 : decode cL_setWind 22 = .ok (.ireturn, 1) := by decide +kernel
set_option maxRecDepth 20000 in
theorem ggL_hire_X2_hire : GoodIn wsL_hire wsX2_hire := goodIn_ca (goodIn_ca (goodIn_ca (goodIn_r _ [8, 9, 10, 11, 12, 13, 14, 15, 7, 16, 17, 18, 19, 20, 21, 22, 23, 24, 25, 26, 27, 28, 29, 30, 31, 32, 33, 34, 35, 36, 37, 38, 39, 40, 41, 42, 43, 44, 45, 46, 47, 48, 49, 50, 51, 52, 53, 54, 55, 56, 57, 58, 59, 60, 61, 62, 63, 64, 65, 66, 67, 68, 69, 70, 71, 72, 73, 74, 75, 76, 77, 78, 79, 80, 81, 82, 83, 84, 85, 86, 87] (by decide +kernel) (by decide +kernel)) (goodIn_sub (fun _ h => List.mem_cons_of_mem _ (List.mem_append_left _ (List.mem_append_left _ (List.mem_append_right _ h)))) (by decide +kernel))) (goodIn_sub (fun _ h => List.mem_cons_of_mem _ (List.mem_append_left _ (List.mem_append_right _ h))) (by decide +kernel))) (goodIn_sub (fun _ h => List.mem_cons_of_mem _ (List.mem_append_right _ h)) (by decide +kernel))
set_option maxRecDepth 20000 in
theorem gL_hire_X2_hire : GoodIn wsL_hire (wsV RL 33 RX2 yX2_hire wsX2_hire) := goodIn_app (goodIn_of _ (by decide +kernel)) ggL_hire_X2_hire
theorem dL_hire_0 : decode cL_hire 0 = .ok (.aload 4, 2) := by decide +kernel
theorem dL_hire_2 : decode cL_hire 2 = .ok (.iconst 0, 1) := by decide +kernel
theorem dL_hire_3 : decode cL_hire 3 = .ok (.aload_n 0, 1) := by decide +kernel
theorem dL_hire_4 : decode cL_hire 4 = .ok (.iload_n 1, 1) := by decide +kernel
theorem dL_hire_5 : decode cL_hire 5 = .ok (.iload_n 2, 1) := by decide +kernel
theorem dL_hire_6 : decode cL_hire 6 = .ok (.iload_n 3, 1) := by decide +kernel
theorem dL_hire_7 : decode cL_hire 7 = .ok (.invokevirtual 33, 3) := by decide +kernel
theorem dL_hire_10 : decode cL_hire 10 = .ok (.i2l, 1) := by decide +kernel
theorem dL_hire_11 : decode cL_hire 11 = .ok (.lastore, 1) := by decide +kernel
theorem dL_hire_12 : decode cL_hire 12 = .ok (.goto 15, 3) := by decide +kernel
theorem dL_hire_15 : decode cL_hire 15 = .ok (.astore 5, 2) := by decide +kernel
theorem dL_hire_17 : decode cL_hire 17 = .ok (.iconst 1, 1) := by decide +kernel
theorem dL_hire_18 : decode cL_hire 18 = .ok (.ireturn, 1) := by decide +kernel
theorem dL_hire_19 : decode cL_hire 19 = .ok (.astore 5, 2) := by decide +kernel
theorem dL_hire_21 : decode cL_hire 21 = .ok (.iconst 2, 1) := by decide +kernel
theorem dL_hire_22 : decode cL_hire 22 = .ok (.ireturn, 1) := by decide +kernel
theorem dL_hire_23 : decode cL_hire 23 = .ok (.astore 5, 2) := by decide +kernel
theorem dL_hire_25 : decode cL_hire 25 = .ok (.iconst 3, 1) := by decide +kernel
theorem dL_hire_26 : decode cL_hire 26 = .ok (.ireturn, 1) := by decide +kernel
theorem dL_hire_27 : decode cL_hire 27 = .ok (.iconst 0, 1) := by decide +kernel
theorem dL_hire_28 : decode cL_hire 28 = .ok (.ireturn, 1) := by decide +kernel
set_option maxRecDepth 20000 in
theorem ggL_round_X2_round : GoodIn wsL_round wsX2_round := goodIn_ca (goodIn_ca (goodIn_r _ [7, 8, 9, 10, 11, 12, 13, 14, 15, 6, 16, 17, 18, 19, 20, 21, 22, 23, 24, 25, 26, 27, 28, 29, 30, 31, 32, 33, 34, 35, 36, 37, 38, 39, 40, 41, 42, 43, 44, 45, 46, 47, 48, 49, 50, 51, 52, 53] (by decide +kernel) (by decide +kernel)) (goodIn_sub (fun _ h => List.mem_cons_of_mem _ (List.mem_append_left _ (List.mem_append_right _ h))) (by decide +kernel))) (goodIn_sub (fun _ h => List.mem_cons_of_mem _ (List.mem_append_right _ h)) (by decide +kernel))
set_option maxRecDepth 20000 in
theorem gL_round_X2_round : GoodIn wsL_round (wsV RL 36 RX2 yX2_round wsX2_round) := goodIn_app (goodIn_of _ (by decide +kernel)) ggL_round_X2_round
theorem dL_round_0 : decode cL_round 0 = .ok (.aload_n 3, 1) := by decide +kernel
theorem dL_round_1 : decode cL_round 1 = .ok (.iconst 0, 1) := by decide +kernel
theorem dL_round_2 : decode cL_round 2 = .ok (.aload_n 0, 1) := by decide +kernel
theorem dL_round_3 : decode cL_round 3 = .ok (.iload_n 1, 1) := by decide +kernel
theorem dL_round_4 : decode cL_round 4 = .ok (.iload_n 2, 1) := by decide +kernel
theorem dL_round_5 : decode cL_round 5 = .ok (.invokevirtual 36, 3) := by decide +kernel
theorem dL_round_8 : decode cL_round 8 = .ok (.i2l, 1) := by decide +kernel
theorem dL_round_9 : decode cL_round 9 = .ok (.lastore, 1) := by decide +kernel
theorem dL_round_10 : decode cL_round 10 = .ok (.goto 11, 3) := by decide +kernel
theorem dL_round_13 : decode cL_round 13 = .ok (.astore 4, 2) := by decide +kernel
theorem dL_round_15 : decode cL_round 15 = .ok (.iconst 1, 1) := by decide +kernel
theorem dL_round_16 : decode cL_round 16 = .ok (.ireturn, 1) := by decide +kernel
theorem dL_round_17 : decode cL_round 17 = .ok (.astore 4, 2) := by decide +kernel
theorem dL_round_19 : decode cL_round 19 = .ok (.iconst 2, 1) := by decide +kernel
theorem dL_round_20 : decode cL_round 20 = .ok (.ireturn, 1) := by decide +kernel
theorem dL_round_21 : decode cL_round 21 = .ok (.iconst 0, 1) := by decide +kernel
theorem dL_round_22 : decode cL_round 22 = .ok (.ireturn, 1) := by decide +kernel
set_option maxRecDepth 20000 in
theorem ggL_fill_X2_fill : GoodIn wsL_fill wsX2_fill := goodIn_ca (goodIn_ca (goodIn_r _ [7, 8, 9, 10, 11, 12, 13, 14, 15, 16, 17, 6, 18, 19, 20, 21, 22, 23, 24, 25, 26, 27, 28, 29, 30, 31, 32, 33, 34, 35, 36, 37, 38, 39, 40, 41, 42, 43, 44, 45, 46, 47, 48, 49, 50, 51, 52, 53, 54, 55, 56, 57, 58, 59, 60, 61, 62] (by decide +kernel) (by decide +kernel)) (goodIn_sub (fun _ h => List.mem_cons_of_mem _ (List.mem_append_left _ (List.mem_append_right _ h))) (by decide +kernel))) (goodIn_sub (fun _ h => List.mem_cons_of_mem _ (List.mem_append_right _ h)) (by decide +kernel))
set_option maxRecDepth 20000 in
theorem gL_fill_X2_fill : GoodIn wsL_fill (wsV RL 39 RX2 yX2_fill wsX2_fill) := goodIn_app (goodIn_of _ (by decide +kernel)) ggL_fill_X2_fill
theorem dL_fill_0 : decode cL_fill 0 = .ok (.aload_n 3, 1) := by decide +kernel
theorem dL_fill_1 : decode cL_fill 1 = .ok (.iconst 0, 1) := by decide +kernel
theorem dL_fill_2 : decode cL_fill 2 = .ok (.aload_n 0, 1) := by decide +kernel
theorem dL_fill_3 : decode cL_fill 3 = .ok (.iload_n 1, 1) := by decide +kernel
theorem dL_fill_4 : decode cL_fill 4 = .ok (.iload_n 2, 1) := by decide +kernel
theorem dL_fill_5 : decode cL_fill 5 = .ok (.invokevirtual 39, 3) := by decide +kernel
theorem dL_fill_8 : decode cL_fill 8 = .ok (.i2l, 1) := by decide +kernel
theorem dL_fill_9 : decode cL_fill 9 = .ok (.lastore, 1) := by decide +kernel
theorem dL_fill_10 : decode cL_fill 10 = .ok (.goto 11, 3) := by decide +kernel
theorem dL_fill_13 : decode cL_fill 13 = .ok (.astore 4, 2) := by decide +kernel
theorem dL_fill_15 : decode cL_fill 15 = .ok (.iconst 1, 1) := by decide +kernel
theorem dL_fill_16 : decode cL_fill 16 = .ok (.ireturn, 1) := by decide +kernel
theorem dL_fill_17 : decode cL_fill 17 = .ok (.astore 4, 2) := by decide +kernel
theorem dL_fill_19 : decode cL_fill 19 = .ok (.iconst 2, 1) := by decide +kernel
theorem dL_fill_20 : decode cL_fill 20 = .ok (.ireturn, 1) := by decide +kernel
theorem dL_fill_21 : decode cL_fill 21 = .ok (.iconst 0, 1) := by decide +kernel
theorem dL_fill_22 : decode cL_fill 22 = .ok (.ireturn, 1) := by decide +kernel
set_option maxRecDepth 20000 in
theorem ggL_way_X2_way : GoodIn wsL_way wsX2_way := goodIn_ca (goodIn_r _ [6, 7, 8, 9, 10, 11, 12, 5, 13, 14, 15, 16, 17, 18, 19, 20, 21, 22, 23, 24, 25, 26, 27, 28, 29, 30, 31, 32, 33, 34, 35, 36] (by decide +kernel) (by decide +kernel)) (goodIn_sub (fun _ h => List.mem_cons_of_mem _ (List.mem_append_right _ h)) (by decide +kernel))
set_option maxRecDepth 20000 in
theorem gL_way_X2_way : GoodIn wsL_way (wsV RL 42 RX2 yX2_way wsX2_way) := goodIn_app (goodIn_of _ (by decide +kernel)) ggL_way_X2_way
theorem dL_way_0 : decode cL_way 0 = .ok (.aload_n 3, 1) := by decide +kernel
theorem dL_way_1 : decode cL_way 1 = .ok (.iconst 0, 1) := by decide +kernel
theorem dL_way_2 : decode cL_way 2 = .ok (.aload_n 0, 1) := by decide +kernel
theorem dL_way_3 : decode cL_way 3 = .ok (.iload_n 1, 1) := by decide +kernel
theorem dL_way_4 : decode cL_way 4 = .ok (.iload_n 2, 1) := by decide +kernel
theorem dL_way_5 : decode cL_way 5 = .ok (.invokevirtual 42, 3) := by decide +kernel
theorem dL_way_8 : decode cL_way 8 = .ok (.i2l, 1) := by decide +kernel
theorem dL_way_9 : decode cL_way 9 = .ok (.lastore, 1) := by decide +kernel
theorem dL_way_10 : decode cL_way 10 = .ok (.goto 7, 3) := by decide +kernel
theorem dL_way_13 : decode cL_way 13 = .ok (.astore 4, 2) := by decide +kernel
theorem dL_way_15 : decode cL_way 15 = .ok (.iconst 1, 1) := by decide +kernel
theorem dL_way_16 : decode cL_way 16 = .ok (.ireturn, 1) := by decide +kernel
theorem dL_way_17 : decode cL_way 17 = .ok (.iconst 0, 1) := by decide +kernel
theorem dL_way_18 : decode cL_way 18 = .ok (.ireturn, 1) := by decide +kernel
set_option maxRecDepth 20000 in
theorem ggL_told_X2_told : GoodIn wsL_told wsX2_told := goodIn_ca (goodIn_r _ [6, 7, 8, 9, 10, 11, 12, 13, 14, 15, 16, 17, 18, 19, 5, 20, 21, 22, 23, 24, 25, 26, 27, 28, 29, 30, 31, 32, 33, 34, 35, 36, 37, 38, 39, 40, 41, 42, 43, 44, 45, 46, 47, 48, 49, 50, 51, 52, 53, 54, 55, 56, 57, 58, 59, 60, 61, 62, 63, 64, 65, 66] (by decide +kernel) (by decide +kernel)) (goodIn_sub (fun _ h => List.mem_cons_of_mem _ (List.mem_append_right _ h)) (by decide +kernel))
set_option maxRecDepth 20000 in
theorem gL_told_X2_told : GoodIn wsL_told (wsV RL 45 RX2 yX2_told wsX2_told) := goodIn_app (goodIn_of _ (by decide +kernel)) ggL_told_X2_told
theorem dL_told_0 : decode cL_told 0 = .ok (.aload_n 3, 1) := by decide +kernel
theorem dL_told_1 : decode cL_told 1 = .ok (.iconst 0, 1) := by decide +kernel
theorem dL_told_2 : decode cL_told 2 = .ok (.aload_n 0, 1) := by decide +kernel
theorem dL_told_3 : decode cL_told 3 = .ok (.iload_n 1, 1) := by decide +kernel
theorem dL_told_4 : decode cL_told 4 = .ok (.iload_n 2, 1) := by decide +kernel
theorem dL_told_5 : decode cL_told 5 = .ok (.invokevirtual 45, 3) := by decide +kernel
theorem dL_told_8 : decode cL_told 8 = .ok (.i2l, 1) := by decide +kernel
theorem dL_told_9 : decode cL_told 9 = .ok (.lastore, 1) := by decide +kernel
theorem dL_told_10 : decode cL_told 10 = .ok (.goto 7, 3) := by decide +kernel
theorem dL_told_13 : decode cL_told 13 = .ok (.astore 4, 2) := by decide +kernel
theorem dL_told_15 : decode cL_told 15 = .ok (.iconst 1, 1) := by decide +kernel
theorem dL_told_16 : decode cL_told 16 = .ok (.ireturn, 1) := by decide +kernel
theorem dL_told_17 : decode cL_told 17 = .ok (.iconst 0, 1) := by decide +kernel
theorem dL_told_18 : decode cL_told 18 = .ok (.ireturn, 1) := by decide +kernel
set_option maxRecDepth 20000 in
theorem ggL_lighter_X2_lighter : GoodIn wsL_lighter wsX2_lighter := goodIn_ca (goodIn_r _ [6, 7, 8, 9, 10, 11, 12, 13, 14, 15, 16, 17, 18, 5, 19, 20, 21, 22, 23, 24, 25, 26, 27, 28, 29, 30, 31, 32, 33, 34, 35, 36, 37, 38, 39, 40, 41, 42, 43, 44, 45, 46, 47, 48, 49, 50, 51, 52, 53, 54, 55, 56, 57, 58] (by decide +kernel) (by decide +kernel)) (goodIn_sub (fun _ h => List.mem_cons_of_mem _ (List.mem_append_right _ h)) (by decide +kernel))
set_option maxRecDepth 20000 in
theorem gL_lighter_X2_lighter : GoodIn wsL_lighter (wsV RL 48 RX2 yX2_lighter wsX2_lighter) := goodIn_app (goodIn_of _ (by decide +kernel)) ggL_lighter_X2_lighter
theorem dL_lighter_0 : decode cL_lighter 0 = .ok (.aload_n 3, 1) := by decide +kernel
theorem dL_lighter_1 : decode cL_lighter 1 = .ok (.iconst 0, 1) := by decide +kernel
theorem dL_lighter_2 : decode cL_lighter 2 = .ok (.aload_n 0, 1) := by decide +kernel
theorem dL_lighter_3 : decode cL_lighter 3 = .ok (.iload_n 1, 1) := by decide +kernel
theorem dL_lighter_4 : decode cL_lighter 4 = .ok (.iload_n 2, 1) := by decide +kernel
theorem dL_lighter_5 : decode cL_lighter 5 = .ok (.invokevirtual 48, 3) := by decide +kernel
theorem dL_lighter_8 : decode cL_lighter 8 = .ok (.i2l, 1) := by decide +kernel
theorem dL_lighter_9 : decode cL_lighter 9 = .ok (.lastore, 1) := by decide +kernel
theorem dL_lighter_10 : decode cL_lighter 10 = .ok (.goto 7, 3) := by decide +kernel
theorem dL_lighter_13 : decode cL_lighter 13 = .ok (.astore 4, 2) := by decide +kernel
theorem dL_lighter_15 : decode cL_lighter 15 = .ok (.iconst 1, 1) := by decide +kernel
theorem dL_lighter_16 : decode cL_lighter 16 = .ok (.ireturn, 1) := by decide +kernel
theorem dL_lighter_17 : decode cL_lighter 17 = .ok (.iconst 0, 1) := by decide +kernel
theorem dL_lighter_18 : decode cL_lighter 18 = .ok (.ireturn, 1) := by decide +kernel
set_option maxRecDepth 20000 in
theorem ggL_burning_X2_burning : GoodIn wsL_burning wsX2_burning := goodIn_ca (goodIn_r _ [6, 7, 8, 9, 10, 11, 12, 5, 13, 14, 15, 16, 17, 18, 19, 20, 21, 22, 23, 24, 25, 26, 27, 28, 29, 30, 31, 32, 33, 34, 35, 36, 37, 38, 39, 40, 41, 42, 43, 44, 45, 46, 47, 48, 49, 50, 51, 52] (by decide +kernel) (by decide +kernel)) (goodIn_sub (fun _ h => List.mem_cons_of_mem _ (List.mem_append_right _ h)) (by decide +kernel))
set_option maxRecDepth 20000 in
theorem gL_burning_X2_burning : GoodIn wsL_burning (wsV RL 51 RX2 yX2_burning wsX2_burning) := goodIn_app (goodIn_of _ (by decide +kernel)) ggL_burning_X2_burning
theorem dL_burning_0 : decode cL_burning 0 = .ok (.aload_n 2, 1) := by decide +kernel
theorem dL_burning_1 : decode cL_burning 1 = .ok (.iconst 0, 1) := by decide +kernel
theorem dL_burning_2 : decode cL_burning 2 = .ok (.aload_n 0, 1) := by decide +kernel
theorem dL_burning_3 : decode cL_burning 3 = .ok (.iload_n 1, 1) := by decide +kernel
theorem dL_burning_4 : decode cL_burning 4 = .ok (.invokevirtual 51, 3) := by decide +kernel
theorem dL_burning_7 : decode cL_burning 7 = .ok (.i2l, 1) := by decide +kernel
theorem dL_burning_8 : decode cL_burning 8 = .ok (.lastore, 1) := by decide +kernel
theorem dL_burning_9 : decode cL_burning 9 = .ok (.goto 6, 3) := by decide +kernel
theorem dL_burning_12 : decode cL_burning 12 = .ok (.astore_n 3, 1) := by decide +kernel
theorem dL_burning_13 : decode cL_burning 13 = .ok (.iconst 1, 1) := by decide +kernel
theorem dL_burning_14 : decode cL_burning 14 = .ok (.ireturn, 1) := by decide +kernel
theorem dL_burning_15 : decode cL_burning 15 = .ok (.iconst 0, 1) := by decide +kernel
theorem dL_burning_16 : decode cL_burning 16 = .ok (.ireturn, 1) := by decide +kernel
set_option maxRecDepth 20000 in
theorem ggL_count_X2_count : GoodIn wsL_count wsX2_count := goodIn_ca (goodIn_r _ [6, 7, 8, 9, 10, 11, 12, 13, 14, 15, 16, 17, 5, 18, 19, 20, 21, 22, 23, 24, 25, 26, 27, 28, 29, 30, 31, 32, 33, 34, 35, 36, 37, 38, 39, 40, 41, 42, 43, 44, 45, 46, 47, 48, 49, 50, 51, 52, 53, 54, 55, 56, 57, 58, 59, 60, 61, 62, 63, 64, 65, 66, 67, 68, 69, 70, 71, 72, 73, 74, 75, 76, 77, 78] (by decide +kernel) (by decide +kernel)) (goodIn_sub (fun _ h => List.mem_cons_of_mem _ (List.mem_append_right _ h)) (by decide +kernel))
set_option maxRecDepth 20000 in
theorem gL_count_X2_count : GoodIn wsL_count (wsV RL 54 RX2 yX2_count wsX2_count) := goodIn_app (goodIn_of _ (by decide +kernel)) ggL_count_X2_count
theorem dL_count_0 : decode cL_count 0 = .ok (.aload_n 2, 1) := by decide +kernel
theorem dL_count_1 : decode cL_count 1 = .ok (.iconst 0, 1) := by decide +kernel
theorem dL_count_2 : decode cL_count 2 = .ok (.aload_n 0, 1) := by decide +kernel
theorem dL_count_3 : decode cL_count 3 = .ok (.iload_n 1, 1) := by decide +kernel
theorem dL_count_4 : decode cL_count 4 = .ok (.invokevirtual 54, 3) := by decide +kernel
theorem dL_count_7 : decode cL_count 7 = .ok (.i2l, 1) := by decide +kernel
theorem dL_count_8 : decode cL_count 8 = .ok (.lastore, 1) := by decide +kernel
theorem dL_count_9 : decode cL_count 9 = .ok (.goto 6, 3) := by decide +kernel
theorem dL_count_12 : decode cL_count 12 = .ok (.astore_n 3, 1) := by decide +kernel
theorem dL_count_13 : decode cL_count 13 = .ok (.iconst 1, 1) := by decide +kernel
theorem dL_count_14 : decode cL_count 14 = .ok (.ireturn, 1) := by decide +kernel
theorem dL_count_15 : decode cL_count 15 = .ok (.iconst 0, 1) := by decide +kernel
theorem dL_count_16 : decode cL_count 16 = .ok (.ireturn, 1) := by decide +kernel
set_option maxRecDepth 20000 in
theorem ggL_pass_X2_pass : GoodIn wsL_pass wsX2_pass := goodIn_ca (goodIn_r _ [6, 7, 8, 9, 10, 5, 11, 12, 13, 14, 15, 16, 17, 18, 19, 20, 21, 22, 23, 24, 25, 26, 27, 28, 29, 30, 31, 32, 33, 34, 35, 36, 37, 38, 39, 40, 41, 42, 43, 44, 45, 46, 47, 48, 49, 50, 51, 52, 53, 54, 55, 56, 57, 58, 59, 60, 61, 62, 63, 64, 65, 66, 67, 68, 69, 70, 71, 72, 73, 74, 75, 76, 77, 78, 79, 80, 81, 82, 83, 84, 85, 86, 87, 88, 89, 90, 91, 92, 93, 94, 95, 96, 97, 98, 99, 100, 101, 102, 103, 104, 105, 106, 107, 108, 109, 110, 111, 112, 113, 114, 115, 116, 117, 118, 119, 120, 121, 122, 123, 124, 125, 126, 127, 128, 129, 130, 131, 132, 133, 134, 135, 136, 137, 138, 139, 140, 141, 142, 143, 144, 145, 146, 147] (by decide +kernel) (by decide +kernel)) (goodIn_sub (fun _ h => List.mem_cons_of_mem _ (List.mem_append_right _ h)) (by decide +kernel))
set_option maxRecDepth 20000 in
theorem gL_pass_X2_pass : GoodIn wsL_pass (wsV RL 57 RX2 yX2_pass wsX2_pass) := goodIn_app (goodIn_of _ (by decide +kernel)) ggL_pass_X2_pass
theorem dL_pass_0 : decode cL_pass 0 = .ok (.aload_n 2, 1) := by decide +kernel
theorem dL_pass_1 : decode cL_pass 1 = .ok (.iconst 0, 1) := by decide +kernel
theorem dL_pass_2 : decode cL_pass 2 = .ok (.aload_n 0, 1) := by decide +kernel
theorem dL_pass_3 : decode cL_pass 3 = .ok (.iload_n 1, 1) := by decide +kernel
theorem dL_pass_4 : decode cL_pass 4 = .ok (.invokevirtual 57, 3) := by decide +kernel
theorem dL_pass_7 : decode cL_pass 7 = .ok (.i2l, 1) := by decide +kernel
theorem dL_pass_8 : decode cL_pass 8 = .ok (.lastore, 1) := by decide +kernel
theorem dL_pass_9 : decode cL_pass 9 = .ok (.goto 6, 3) := by decide +kernel
theorem dL_pass_12 : decode cL_pass 12 = .ok (.astore_n 3, 1) := by decide +kernel
theorem dL_pass_13 : decode cL_pass 13 = .ok (.iconst 1, 1) := by decide +kernel
theorem dL_pass_14 : decode cL_pass 14 = .ok (.ireturn, 1) := by decide +kernel
theorem dL_pass_15 : decode cL_pass 15 = .ok (.iconst 0, 1) := by decide +kernel
theorem dL_pass_16 : decode cL_pass 16 = .ok (.ireturn, 1) := by decide +kernel
set_option maxRecDepth 20000 in
theorem ggL_dawn_X2_dawn : GoodIn wsL_dawn wsX2_dawn := goodIn_ca (goodIn_r _ [6, 7, 8, 9, 10, 11, 12, 13, 14, 15, 16, 17, 18, 19, 20, 21, 22, 23, 24, 25, 26, 27, 28, 29, 30, 31, 32, 33, 34, 35, 36, 37, 38, 39, 40, 41, 42, 43, 44, 45, 46, 47, 48, 49, 50, 51, 52, 53, 54, 55, 56, 57, 58, 59, 60, 61, 62, 63, 64, 65, 66, 67, 68, 69, 70, 71, 72, 73, 74, 75, 76, 77, 78, 79, 80, 81, 82] (by decide +kernel) (by decide +kernel)) (goodIn_sub (fun _ h => List.mem_cons_of_mem _ (List.mem_append_right _ h)) (by decide +kernel))
set_option maxRecDepth 20000 in
theorem gL_dawn_X2_dawn : GoodIn wsL_dawn (wsV RL 60 RX2 yX2_dawn wsX2_dawn) := goodIn_app (goodIn_of _ (by decide +kernel)) ggL_dawn_X2_dawn
theorem dL_dawn_0 : decode cL_dawn 0 = .ok (.aload_n 1, 1) := by decide +kernel
theorem dL_dawn_1 : decode cL_dawn 1 = .ok (.iconst 0, 1) := by decide +kernel
theorem dL_dawn_2 : decode cL_dawn 2 = .ok (.aload_n 0, 1) := by decide +kernel
theorem dL_dawn_3 : decode cL_dawn 3 = .ok (.invokevirtual 60, 3) := by decide +kernel
theorem dL_dawn_6 : decode cL_dawn 6 = .ok (.i2l, 1) := by decide +kernel
theorem dL_dawn_7 : decode cL_dawn 7 = .ok (.lastore, 1) := by decide +kernel
theorem dL_dawn_8 : decode cL_dawn 8 = .ok (.goto 6, 3) := by decide +kernel
theorem dL_dawn_11 : decode cL_dawn 11 = .ok (.astore_n 2, 1) := by decide +kernel
theorem dL_dawn_12 : decode cL_dawn 12 = .ok (.iconst 1, 1) := by decide +kernel
theorem dL_dawn_13 : decode cL_dawn 13 = .ok (.ireturn, 1) := by decide +kernel
theorem dL_dawn_14 : decode cL_dawn 14 = .ok (.iconst 0, 1) := by decide +kernel
theorem dL_dawn_15 : decode cL_dawn 15 = .ok (.ireturn, 1) := by decide +kernel
set_option maxRecDepth 20000 in
theorem ggL_comes_X2_comes : GoodIn wsL_comes wsX2_comes := goodIn_ca (goodIn_r _ [6, 7, 8, 9, 10, 11, 12, 13, 14, 5, 15, 16, 17, 18, 19, 20, 21, 22, 23, 24, 25, 26, 27, 28, 29, 30, 31, 32, 33, 34, 35, 36, 37, 38, 39, 40, 41, 42, 43, 44, 45, 46, 47, 48, 49, 50, 51, 52, 53, 54, 55, 56, 57, 58, 59, 60, 61, 62, 63, 64, 65, 66, 67, 68, 69, 70, 71, 72, 73, 74, 75, 76, 77, 78, 79, 80, 81, 82, 83, 84, 85, 86, 87, 88, 89, 90, 91, 92, 93, 94, 95, 96, 97, 98, 99, 100, 101, 102, 103, 104, 105, 106, 107, 108, 109, 110, 111, 112, 113, 114, 115, 116, 117, 118, 119, 120, 121, 122, 123, 124, 125, 126, 127, 128, 129, 130, 131, 132, 133, 134, 135, 136, 137, 138, 139, 140, 141, 142, 143, 144, 145, 146, 147, 148, 149, 150, 151, 152, 153, 154, 155, 156, 157, 158, 159, 160] (by decide +kernel) (by decide +kernel)) (goodIn_sub (fun _ h => List.mem_cons_of_mem _ (List.mem_append_right _ h)) (by decide +kernel))
set_option maxRecDepth 20000 in
theorem gL_comes_X2_comes : GoodIn wsL_comes (wsV RL 64 RX2 yX2_comes wsX2_comes) := goodIn_app (goodIn_of _ (by decide +kernel)) ggL_comes_X2_comes
theorem dL_comes_0 : decode cL_comes 0 = .ok (.aload_n 2, 1) := by decide +kernel
theorem dL_comes_1 : decode cL_comes 1 = .ok (.iconst 0, 1) := by decide +kernel
theorem dL_comes_2 : decode cL_comes 2 = .ok (.aload_n 0, 1) := by decide +kernel
theorem dL_comes_3 : decode cL_comes 3 = .ok (.iload_n 1, 1) := by decide +kernel
theorem dL_comes_4 : decode cL_comes 4 = .ok (.invokevirtual 64, 3) := by decide +kernel
theorem dL_comes_7 : decode cL_comes 7 = .ok (.i2l, 1) := by decide +kernel
theorem dL_comes_8 : decode cL_comes 8 = .ok (.lastore, 1) := by decide +kernel
theorem dL_comes_9 : decode cL_comes 9 = .ok (.goto 6, 3) := by decide +kernel
theorem dL_comes_12 : decode cL_comes 12 = .ok (.astore_n 3, 1) := by decide +kernel
theorem dL_comes_13 : decode cL_comes 13 = .ok (.iconst 1, 1) := by decide +kernel
theorem dL_comes_14 : decode cL_comes 14 = .ok (.ireturn, 1) := by decide +kernel
theorem dL_comes_15 : decode cL_comes 15 = .ok (.iconst 0, 1) := by decide +kernel
theorem dL_comes_16 : decode cL_comes 16 = .ok (.ireturn, 1) := by decide +kernel
set_option maxRecDepth 20000 in
theorem ggL_needs_X2_needs : GoodIn wsL_needs wsX2_needs := goodIn_ca (goodIn_r _ [6, 7, 8, 9, 10, 11, 12, 13, 14, 15, 5, 16, 17, 18, 19, 20, 21, 22, 23, 24, 25, 26, 27, 28, 29, 30, 31, 32, 33, 34, 35, 36, 37, 38, 39, 40, 41, 42, 43, 44, 45, 46, 47, 48, 49] (by decide +kernel) (by decide +kernel)) (goodIn_sub (fun _ h => List.mem_cons_of_mem _ (List.mem_append_right _ h)) (by decide +kernel))
set_option maxRecDepth 20000 in
theorem gL_needs_X2_needs : GoodIn wsL_needs (wsV RL 67 RX2 yX2_needs wsX2_needs) := goodIn_app (goodIn_of _ (by decide +kernel)) ggL_needs_X2_needs
theorem dL_needs_0 : decode cL_needs 0 = .ok (.aload_n 2, 1) := by decide +kernel
theorem dL_needs_1 : decode cL_needs 1 = .ok (.iconst 0, 1) := by decide +kernel
theorem dL_needs_2 : decode cL_needs 2 = .ok (.aload_n 0, 1) := by decide +kernel
theorem dL_needs_3 : decode cL_needs 3 = .ok (.iload_n 1, 1) := by decide +kernel
theorem dL_needs_4 : decode cL_needs 4 = .ok (.invokevirtual 67, 3) := by decide +kernel
theorem dL_needs_7 : decode cL_needs 7 = .ok (.i2l, 1) := by decide +kernel
theorem dL_needs_8 : decode cL_needs 8 = .ok (.lastore, 1) := by decide +kernel
theorem dL_needs_9 : decode cL_needs 9 = .ok (.goto 6, 3) := by decide +kernel
theorem dL_needs_12 : decode cL_needs 12 = .ok (.astore_n 3, 1) := by decide +kernel
theorem dL_needs_13 : decode cL_needs 13 = .ok (.iconst 1, 1) := by decide +kernel
theorem dL_needs_14 : decode cL_needs 14 = .ok (.ireturn, 1) := by decide +kernel
theorem dL_needs_15 : decode cL_needs 15 = .ok (.iconst 0, 1) := by decide +kernel
theorem dL_needs_16 : decode cL_needs 16 = .ok (.ireturn, 1) := by decide +kernel
set_option maxRecDepth 20000 in
theorem ggL_foresee_X2_foresee : GoodIn wsL_foresee wsX2_foresee := goodIn_ca (goodIn_ca (goodIn_r _ [7, 8, 9, 10, 11, 12, 13, 6, 14, 15, 16, 17, 18, 19, 20, 21, 22, 23, 24, 25, 26, 27, 28, 29, 30, 31, 32, 33, 34, 35, 36, 37, 38, 39, 40, 41, 42, 43, 44, 45, 46, 47, 48, 49, 50, 51, 52, 53, 54, 55, 56, 57, 58, 59, 60, 61, 62, 63, 64, 65, 66, 67, 68, 69, 70, 71, 72, 73, 74, 75, 76, 77, 78, 79, 80, 81, 82, 83, 84, 85, 86, 87, 88, 89, 90, 91, 92, 93, 94, 95, 96, 97, 98, 99, 100, 101, 102, 103, 104, 105, 106, 107, 108, 109, 110, 111, 112, 113, 114, 115, 116, 117, 118, 119, 120, 121, 122, 123, 124, 125, 126, 127, 128, 129, 130, 131, 132, 133, 134, 135, 136, 137, 138, 139, 140, 141, 142, 143, 144, 145, 146, 147, 148, 149, 150, 151, 152, 153, 154, 155, 156, 157, 158, 159, 160, 161, 162, 163, 164, 165, 166, 167, 168, 169, 170, 171, 172, 173, 174, 175, 176, 177] (by decide +kernel) (by decide +kernel)) (goodIn_sub (fun _ h => List.mem_cons_of_mem _ (List.mem_append_left _ (List.mem_append_right _ h))) (by decide +kernel))) (goodIn_sub (fun _ h => List.mem_cons_of_mem _ (List.mem_append_right _ h)) (by decide +kernel))
set_option maxRecDepth 20000 in
theorem gL_foresee_X2_foresee : GoodIn wsL_foresee (wsV RL 70 RX2 yX2_foresee wsX2_foresee) := goodIn_app (goodIn_of _ (by decide +kernel)) ggL_foresee_X2_foresee
theorem dL_foresee_0 : decode cL_foresee 0 = .ok (.aload_n 3, 1) := by decide +kernel
theorem dL_foresee_1 : decode cL_foresee 1 = .ok (.iconst 0, 1) := by decide +kernel
theorem dL_foresee_2 : decode cL_foresee 2 = .ok (.aload_n 0, 1) := by decide +kernel
theorem dL_foresee_3 : decode cL_foresee 3 = .ok (.iload_n 1, 1) := by decide +kernel
theorem dL_foresee_4 : decode cL_foresee 4 = .ok (.iload_n 2, 1) := by decide +kernel
theorem dL_foresee_5 : decode cL_foresee 5 = .ok (.invokevirtual 70, 3) := by decide +kernel
theorem dL_foresee_8 : decode cL_foresee 8 = .ok (.i2l, 1) := by decide +kernel
theorem dL_foresee_9 : decode cL_foresee 9 = .ok (.lastore, 1) := by decide +kernel
theorem dL_foresee_10 : decode cL_foresee 10 = .ok (.goto 11, 3) := by decide +kernel
theorem dL_foresee_13 : decode cL_foresee 13 = .ok (.astore 4, 2) := by decide +kernel
theorem dL_foresee_15 : decode cL_foresee 15 = .ok (.iconst 1, 1) := by decide +kernel
theorem dL_foresee_16 : decode cL_foresee 16 = .ok (.ireturn, 1) := by decide +kernel
theorem dL_foresee_17 : decode cL_foresee 17 = .ok (.astore 4, 2) := by decide +kernel
theorem dL_foresee_19 : decode cL_foresee 19 = .ok (.iconst 2, 1) := by decide +kernel
theorem dL_foresee_20 : decode cL_foresee 20 = .ok (.ireturn, 1) := by decide +kernel
theorem dL_foresee_21 : decode cL_foresee 21 = .ok (.iconst 0, 1) := by decide +kernel
theorem dL_foresee_22 : decode cL_foresee 22 = .ok (.ireturn, 1) := by decide +kernel
set_option maxRecDepth 20000 in
theorem ggL_law_X2_init : GoodIn wsL_law wsX2_init := goodIn_r _ [9, 10, 11, 12, 13, 14, 15, 16, 17, 18, 19, 20, 21, 22, 23, 24, 25, 26, 27, 28, 29, 30, 31, 32, 33, 34, 35, 36, 37, 38, 39, 40, 41, 42, 43, 44, 45, 46, 47, 48, 49, 50, 51, 52, 53, 54, 55, 56, 57, 681, 682, 683, 684, 685, 686, 687, 688, 689, 690, 691, 692, 693, 694, 695, 696, 697, 664, 665, 666, 667, 698, 699, 700, 701, 702, 703, 704, 705, 706, 707, 708, 709, 710, 711, 712, 713] (by decide +kernel) (by decide +kernel)
set_option maxRecDepth 20000 in
theorem gL_law_X2_init : GoodIn wsL_law (wsX2_init) := ggL_law_X2_init
set_option maxRecDepth 20000 in
theorem ggL_law_X3_init : GoodIn wsL_law wsX3_init := goodIn_r _ [60, 61, 11, 12, 22, 62, 63, 64, 65, 66, 67, 68, 69, 668, 669, 670, 671, 672, 673, 674, 675, 676, 677, 678, 679, 680] (by decide +kernel) (by decide +kernel)
set_option maxRecDepth 20000 in
theorem gL_law_X3_init : GoodIn wsL_law (wsX3_init) := ggL_law_X3_init
set_option maxRecDepth 20000 in
theorem ggL_law_L_corner : GoodIn wsL_law wsL_corner := goodIn_ca (goodIn_ca (goodIn_r _ [73, 74, 75, 76, 77, 78, 2, 79, 16, 80, 81, 82, 83, 84, 85, 86, 87, 88, 89, 90, 91, 92, 93, 15, 94, 95, 27, 29, 96, 664, 665, 666, 667, 681, 682, 683, 684, 685, 686, 687, 688, 689, 690, 691, 692, 693, 694, 695, 696, 697] (by decide +kernel) (by decide +kernel)) (goodIn_sub (fun _ h => List.mem_append_left _ (List.mem_append_left _ (List.mem_append_right _ h))) (by decide +kernel))) (goodIn_sub (fun _ h => List.mem_append_left _ (List.mem_append_right _ h)) (by decide +kernel))
set_option maxRecDepth 20000 in
theorem gL_law_L_corner : GoodIn wsL_law (va_wsS RL 77 yL_corner wsL_corner) := goodIn_app (goodIn_of _ (by decide +kernel)) ggL_law_L_corner
set_option maxRecDepth 20000 in
theorem ggL_law_X3_corner : GoodIn wsL_law wsX3_corner := goodIn_r _ [100, 101, 102, 62, 103, 104, 5, 105, 106, 107, 108, 109, 110, 111, 112, 113, 64, 114, 115, 116, 117, 118, 119, 120, 121, 122, 123, 124, 125, 63, 668, 669, 670, 671, 672, 673, 674, 675, 676, 677, 678, 679, 680] (by decide +kernel) (by decide +kernel)
set_option maxRecDepth 20000 in
theorem gL_law_X3_corner : GoodIn wsL_law (wsV RL 82 RX3 yX3_corner wsX3_corner) := goodIn_app (goodIn_of _ (by decide +kernel)) ggL_law_X3_corner
set_option maxRecDepth 20000 in
theorem ggL_law_X3_thrown : GoodIn wsL_law wsX3_thrown := goodIn_r _ [129, 101, 668, 669, 670, 671, 672, 673, 674, 675, 676, 677, 678, 679, 680] (by decide +kernel) (by decide +kernel)
set_option maxRecDepth 20000 in
theorem gL_law_X3_thrown : GoodIn wsL_law (wsV RL 83 RX3 yX3_thrown wsX3_thrown) := goodIn_app (goodIn_of _ (by decide +kernel)) ggL_law_X3_thrown
set_option maxRecDepth 20000 in
theorem ggL_law_L_street : GoodIn wsL_law wsL_street := goodIn_ca (goodIn_ca (goodIn_ca (goodIn_r _ [132, 133, 74, 75, 134, 135, 136, 2, 137, 84, 85, 16, 80, 138, 139, 140, 141, 142, 143, 81, 82, 83, 86, 87, 88, 89, 90, 144, 145, 146, 15, 147, 148, 30, 31, 32, 149, 150, 151, 152, 27, 153, 116, 117, 118, 154, 155, 156, 157, 95, 29, 158, 120, 121, 664, 665, 666, 667, 681, 682, 683, 684, 685, 686, 687, 688, 689, 690, 691, 692, 693, 694, 695, 696, 697] (by decide +kernel) (by decide +kernel)) (goodIn_sub (fun _ h => List.mem_append_left _ (List.mem_append_left _ (List.mem_append_right _ h))) (by decide +kernel))) (goodIn_sub (fun _ h => List.mem_append_right _ h) (by decide +kernel))) (goodIn_sub (fun _ h => List.mem_append_left _ (List.mem_append_right _ h)) (by decide +kernel))
set_option maxRecDepth 20000 in
theorem gL_law_L_street : GoodIn wsL_law (va_wsS RL 86 yL_street wsL_street) := goodIn_app (goodIn_of _ (by decide +kernel)) ggL_law_L_street
set_option maxRecDepth 20000 in
theorem ggL_law_X3_street : GoodIn wsL_law wsX3_street := goodIn_r _ [162, 101, 114, 22, 63, 163, 164, 165, 166, 167, 168, 169, 5, 170, 102, 103, 104, 105, 106, 107, 108, 109, 110, 111, 112, 113, 64, 62, 115, 116, 117, 118, 119, 120, 121, 122, 123, 124, 125, 668, 669, 670, 671, 672, 673, 674, 675, 676, 677, 678, 679, 680] (by decide +kernel) (by decide +kernel)
set_option maxRecDepth 20000 in
theorem gL_law_X3_street : GoodIn wsL_law (wsV RL 89 RX3 yX3_street wsX3_street) := goodIn_app (goodIn_of _ (by decide +kernel)) ggL_law_X3_street
set_option maxRecDepth 20000 in
theorem ggL_law_L_lamp : GoodIn wsL_law wsL_lamp := goodIn_ca (goodIn_ca (goodIn_ca (goodIn_r _ [173, 133, 74, 75, 174, 175, 176, 2, 177, 16, 138, 178, 139, 140, 141, 142, 143, 81, 82, 83, 84, 85, 86, 87, 88, 89, 90, 179, 180, 181, 15, 182, 183, 33, 34, 664, 665, 666, 667, 681, 682, 683, 684, 685, 686, 687, 688, 689, 690, 691, 692, 693, 694, 695, 696, 697] (by decide +kernel) (by decide +kernel)) (goodIn_sub (fun _ h => List.mem_append_right _ h) (by decide +kernel))) (goodIn_sub (fun _ h => List.mem_append_left _ (List.mem_append_left _ (List.mem_append_right _ h))) (by decide +kernel))) (goodIn_sub (fun _ h => List.mem_append_left _ (List.mem_append_right _ h)) (by decide +kernel))
set_option maxRecDepth 20000 in
theorem gL_law_L_lamp : GoodIn wsL_law (va_wsS RL 90 yL_lamp wsL_lamp) := goodIn_app (goodIn_of _ (by decide +kernel)) ggL_law_L_lamp
set_option maxRecDepth 20000 in
theorem ggL_law_X3_lamp : GoodIn wsL_law wsX3_lamp := goodIn_r _ [187, 101, 188, 22, 65, 163, 164, 165, 166, 189, 190, 191, 5, 192, 114, 103, 104, 105, 106, 107, 108, 109, 668, 669, 670, 671, 672, 673, 674, 675, 676, 677, 678, 679, 680] (by decide +kernel) (by decide +kernel)
set_option maxRecDepth 20000 in
theorem gL_law_X3_lamp : GoodIn wsL_law (wsV RL 93 RX3 yX3_lamp wsX3_lamp) := goodIn_app (goodIn_of _ (by decide +kernel)) ggL_law_X3_lamp
set_option maxRecDepth 20000 in
theorem ggL_law_L_lid : GoodIn wsL_law wsL_lid := goodIn_ca (goodIn_ca (goodIn_r _ [195, 133, 74, 196, 197, 198, 2, 199, 16, 178, 200, 139, 140, 141, 142, 143, 81, 82, 83, 84, 85, 664, 665, 666, 667, 681, 682, 683, 684, 685, 686, 687, 688, 689, 690, 691, 692, 693, 694, 695, 696, 697] (by decide +kernel) (by decide +kernel)) (goodIn_sub (fun _ h => List.mem_append_right _ h) (by decide +kernel))) (goodIn_sub (fun _ h => List.mem_append_left _ (List.mem_append_left _ (List.mem_append_right _ h))) (by decide +kernel))
set_option maxRecDepth 20000 in
theorem gL_law_L_lid : GoodIn wsL_law (va_wsS RL 94 yL_lid wsL_lid) := goodIn_app (goodIn_of _ (by decide +kernel)) ggL_law_L_lid
set_option maxRecDepth 20000 in
theorem ggL_law_X3_lid : GoodIn wsL_law wsX3_lid := goodIn_r _ [204, 101, 205, 206, 207, 5, 208, 188, 103, 104, 105, 106, 107, 108, 109, 209, 210, 211, 212, 65, 213, 214, 215, 216, 668, 669, 670, 671, 672, 673, 674, 675, 676, 677, 678, 679, 680] (by decide +kernel) (by decide +kernel)
set_option maxRecDepth 20000 in
theorem gL_law_X3_lid : GoodIn wsL_law (wsV RL 96 RX3 yX3_lid wsX3_lid) := goodIn_app (goodIn_of _ (by decide +kernel)) ggL_law_X3_lid
set_option maxRecDepth 20000 in
theorem ggL_law_L_setWind : GoodIn wsL_law wsL_setWind := goodIn_ca (goodIn_ca (goodIn_r _ [219, 133, 74, 220, 221, 222, 2, 223, 16, 224, 139, 140, 141, 142, 143, 81, 82, 83, 84, 85, 664, 665, 666, 667, 681, 682, 683, 684, 685, 686, 687, 688, 689, 690, 691, 692, 693, 694, 695, 696, 697] (by decide +kernel) (by decide +kernel)) (goodIn_sub (fun _ h => List.mem_append_right _ h) (by decide +kernel))) (goodIn_sub (fun _ h => List.mem_append_left _ (List.mem_append_left _ (List.mem_append_right _ h))) (by decide +kernel))
set_option maxRecDepth 20000 in
theorem gL_law_L_setWind : GoodIn wsL_law (va_wsS RL 97 yL_setWind wsL_setWind) := goodIn_app (goodIn_of _ (by decide +kernel)) ggL_law_L_setWind
set_option maxRecDepth 20000 in
theorem ggL_law_X3_setWind : GoodIn wsL_law wsX3_setWind := goodIn_r _ [228, 101, 68, 103, 104, 5, 105, 106, 107, 108, 109, 668, 669, 670, 671, 672, 673, 674, 675, 676, 677, 678, 679, 680] (by decide +kernel) (by decide +kernel)
set_option maxRecDepth 20000 in
theorem gL_law_X3_setWind : GoodIn wsL_law (wsV RL 99 RX3 yX3_setWind wsX3_setWind) := goodIn_app (goodIn_of _ (by decide +kernel)) ggL_law_X3_setWind
set_option maxRecDepth 20000 in
theorem ggL_law_L_hire : GoodIn wsL_law wsL_hire := goodIn_ca (goodIn_ca (goodIn_ca (goodIn_r _ [231, 133, 74, 75, 232, 233, 234, 2, 235, 16, 80, 236, 20, 237, 139, 140, 141, 142, 143, 81, 82, 83, 84, 85, 86, 87, 88, 89, 90, 238, 239, 240, 15, 241, 242, 37, 38, 243, 244, 245, 19, 246, 51, 247, 56, 248, 249, 250, 251, 53, 55, 664, 665, 666, 667, 681, 682, 683, 684, 685, 686, 687, 688, 689, 690, 691, 692, 693, 694, 695, 696, 697, 698, 699, 700, 701, 702, 703, 704, 705, 706, 707, 708, 709, 710, 711, 712, 713] (by decide +kernel) (by decide +kernel)) (goodIn_sub (fun _ h => List.mem_append_right _ h) (by decide +kernel))) (goodIn_sub (fun _ h => List.mem_append_left _ (List.mem_append_left _ (List.mem_append_right _ h))) (by decide +kernel))) (goodIn_sub (fun _ h => List.mem_append_left _ (List.mem_append_right _ h)) (by decide +kernel))
set_option maxRecDepth 20000 in
theorem gL_law_L_hire : GoodIn wsL_law (va_wsS RL 100 yL_hire wsL_hire) := goodIn_app (goodIn_of _ (by decide +kernel)) ggL_law_L_hire
set_option maxRecDepth 20000 in
theorem ggL_law_X3_hire : GoodIn wsL_law wsX3_hire := goodIn_r _ [255, 101, 256, 22, 66, 163, 164, 165, 166, 167, 168, 169, 5, 170, 102, 103, 104, 105, 106, 107, 108, 109, 668, 669, 670, 671, 672, 673, 674, 675, 676, 677, 678, 679, 680] (by decide +kernel) (by decide +kernel)
set_option maxRecDepth 20000 in
theorem gL_law_X3_hire : GoodIn wsL_law (wsV RL 102 RX3 yX3_hire wsX3_hire) := goodIn_app (goodIn_of _ (by decide +kernel)) ggL_law_X3_hire
set_option maxRecDepth 20000 in
theorem ggL_law_L_round : GoodIn wsL_law wsL_round := goodIn_ca (goodIn_ca (goodIn_r _ [259, 133, 75, 260, 261, 262, 2, 263, 89, 90, 16, 236, 178, 264, 139, 140, 141, 142, 143, 265, 266, 267, 15, 268, 39, 40, 86, 87, 88, 269, 270, 271, 272, 664, 665, 666, 667, 681, 682, 683, 684, 685, 686, 687, 688, 689, 690, 691, 692, 693, 694, 695, 696, 697] (by decide +kernel) (by decide +kernel)) (goodIn_sub (fun _ h => List.mem_append_left _ (List.mem_append_right _ h)) (by decide +kernel))) (goodIn_sub (fun _ h => List.mem_append_right _ h) (by decide +kernel))
set_option maxRecDepth 20000 in
theorem gL_law_L_round : GoodIn wsL_law (va_wsS RL 103 yL_round wsL_round) := goodIn_app (goodIn_of _ (by decide +kernel)) ggL_law_L_round
set_option maxRecDepth 20000 in
theorem ggL_law_X3_round : GoodIn wsL_law wsX3_round := goodIn_r _ [276, 101, 67, 277, 278, 279, 5, 280, 256, 103, 104, 105, 205, 206, 207, 208, 188, 106, 107, 108, 109, 281, 282, 283, 284, 66, 285, 286, 287, 288, 668, 669, 670, 671, 672, 673, 674, 675, 676, 677, 678, 679, 680] (by decide +kernel) (by decide +kernel)
set_option maxRecDepth 20000 in
theorem gL_law_X3_round : GoodIn wsL_law (wsV RL 105 RX3 yX3_round wsX3_round) := goodIn_app (goodIn_of _ (by decide +kernel)) ggL_law_X3_round
set_option maxRecDepth 20000 in
theorem ggL_law_L_fill : GoodIn wsL_law wsL_fill := goodIn_ca (goodIn_ca (goodIn_r _ [291, 133, 74, 292, 293, 294, 2, 295, 16, 236, 20, 237, 296, 120, 117, 121, 139, 140, 141, 142, 143, 81, 82, 83, 84, 85, 664, 665, 666, 667, 681, 682, 683, 684, 685, 686, 687, 688, 689, 690, 691, 692, 693, 694, 695, 696, 697, 698, 699, 700, 701, 702, 703, 704, 705, 706, 707, 708, 709, 710, 711, 712, 713] (by decide +kernel) (by decide +kernel)) (goodIn_sub (fun _ h => List.mem_append_right _ h) (by decide +kernel))) (goodIn_sub (fun _ h => List.mem_append_left _ (List.mem_append_left _ (List.mem_append_right _ h))) (by decide +kernel))
set_option maxRecDepth 20000 in
theorem gL_law_L_fill : GoodIn wsL_law (va_wsS RL 106 yL_fill wsL_fill) := goodIn_app (goodIn_of _ (by decide +kernel)) ggL_law_L_fill
set_option maxRecDepth 20000 in
theorem ggL_law_X3_fill : GoodIn wsL_law wsX3_fill := goodIn_r _ [300, 101, 119, 120, 117, 121, 277, 278, 279, 5, 280, 256, 103, 104, 105, 106, 107, 108, 109, 281, 282, 283, 284, 66, 285, 286, 287, 288, 668, 669, 670, 671, 672, 673, 674, 675, 676, 677, 678, 679, 680] (by decide +kernel) (by decide +kernel)
set_option maxRecDepth 20000 in
theorem gL_law_X3_fill : GoodIn wsL_law (wsV RL 108 RX3 yX3_fill wsX3_fill) := goodIn_app (goodIn_of _ (by decide +kernel)) ggL_law_X3_fill
set_option maxRecDepth 20000 in
theorem ggL_law_L_way : GoodIn wsL_law wsL_way := goodIn_ca (goodIn_r _ [303, 133, 304, 305, 306, 2, 307, 16, 80, 308, 309, 139, 140, 141, 142, 143, 664, 665, 666, 667, 681, 682, 683, 684, 685, 686, 687, 688, 689, 690, 691, 692, 693, 694, 695, 696, 697] (by decide +kernel) (by decide +kernel)) (goodIn_sub (fun _ h => List.mem_append_right _ h) (by decide +kernel))
set_option maxRecDepth 20000 in
theorem gL_law_L_way : GoodIn wsL_law (va_wsS RL 109 yL_way wsL_way) := goodIn_app (goodIn_of _ (by decide +kernel)) ggL_law_L_way
set_option maxRecDepth 20000 in
theorem ggL_law_X3_way : GoodIn wsL_law wsX3_way := goodIn_r _ [313, 101, 167, 168, 169, 5, 170, 102, 103, 104, 105, 106, 107, 108, 109, 314, 315, 316, 317, 64, 119, 120, 117, 121, 668, 669, 670, 671, 672, 673, 674, 675, 676, 677, 678, 679, 680] (by decide +kernel) (by decide +kernel)
set_option maxRecDepth 20000 in
theorem gL_law_X3_way : GoodIn wsL_law (wsV RL 111 RX3 yX3_way wsX3_way) := goodIn_app (goodIn_of _ (by decide +kernel)) ggL_law_X3_way
set_option maxRecDepth 20000 in
theorem ggL_law_L_told : GoodIn wsL_law wsL_told := goodIn_ca (goodIn_r _ [320, 133, 321, 322, 323, 2, 324, 16, 178, 325, 326, 200, 20, 327, 328, 329, 330, 331, 139, 140, 141, 142, 143, 332, 333, 334, 19, 335, 336, 53, 664, 665, 666, 667, 681, 682, 683, 684, 685, 686, 687, 688, 689, 690, 691, 692, 693, 694, 695, 696, 697, 698, 699, 700, 701, 702, 703, 704, 705, 706, 707, 708, 709, 710, 711, 712, 713] (by decide +kernel) (by decide +kernel)) (goodIn_sub (fun _ h => List.mem_append_right _ h) (by decide +kernel))
set_option maxRecDepth 20000 in
theorem gL_law_L_told : GoodIn wsL_law (va_wsS RL 112 yL_told wsL_told) := goodIn_app (goodIn_of _ (by decide +kernel)) ggL_law_L_told
set_option maxRecDepth 20000 in
theorem ggL_law_X3_told : GoodIn wsL_law wsX3_told := goodIn_r _ [340, 101, 205, 206, 207, 5, 208, 188, 103, 104, 105, 341, 342, 343, 344, 209, 210, 211, 212, 65, 345, 346, 347, 348, 256, 281, 282, 283, 284, 66, 106, 107, 108, 109, 668, 669, 670, 671, 672, 673, 674, 675, 676, 677, 678, 679, 680] (by decide +kernel) (by decide +kernel)
set_option maxRecDepth 20000 in
theorem gL_law_X3_told : GoodIn wsL_law (wsV RL 114 RX3 yX3_told wsX3_told) := goodIn_app (goodIn_of _ (by decide +kernel)) ggL_law_X3_told
set_option maxRecDepth 20000 in
theorem ggL_law_L_lighter : GoodIn wsL_law wsL_lighter := goodIn_ca (goodIn_r _ [351, 133, 352, 353, 354, 2, 355, 16, 236, 20, 356, 357, 237, 264, 358, 359, 360, 139, 140, 141, 142, 143, 664, 665, 666, 667, 681, 682, 683, 684, 685, 686, 687, 688, 689, 690, 691, 692, 693, 694, 695, 696, 697, 698, 699, 700, 701, 702, 703, 704, 705, 706, 707, 708, 709, 710, 711, 712, 713] (by decide +kernel) (by decide +kernel)) (goodIn_sub (fun _ h => List.mem_append_right _ h) (by decide +kernel))
set_option maxRecDepth 20000 in
theorem gL_law_L_lighter : GoodIn wsL_law (va_wsS RL 115 yL_lighter wsL_lighter) := goodIn_app (goodIn_of _ (by decide +kernel)) ggL_law_L_lighter
set_option maxRecDepth 20000 in
theorem ggL_law_X3_lighter : GoodIn wsL_law wsX3_lighter := goodIn_r _ [364, 101, 277, 278, 279, 5, 280, 256, 103, 104, 105, 365, 366, 367, 368, 22, 281, 282, 283, 284, 66, 106, 107, 108, 109, 668, 669, 670, 671, 672, 673, 674, 675, 676, 677, 678, 679, 680] (by decide +kernel) (by decide +kernel)
set_option maxRecDepth 20000 in
theorem gL_law_X3_lighter : GoodIn wsL_law (wsV RL 117 RX3 yX3_lighter wsX3_lighter) := goodIn_app (goodIn_of _ (by decide +kernel)) ggL_law_X3_lighter
set_option maxRecDepth 20000 in
theorem ggL_law_L_burning : GoodIn wsL_law wsL_burning := goodIn_ca (goodIn_r _ [371, 133, 372, 373, 374, 2, 375, 16, 138, 20, 376, 139, 140, 141, 142, 143, 664, 665, 666, 667, 681, 682, 683, 684, 685, 686, 687, 688, 689, 690, 691, 692, 693, 694, 695, 696, 697, 698, 699, 700, 701, 702, 703, 704, 705, 706, 707, 708, 709, 710, 711, 712, 713] (by decide +kernel) (by decide +kernel)) (goodIn_sub (fun _ h => List.mem_append_right _ h) (by decide +kernel))
set_option maxRecDepth 20000 in
theorem gL_law_L_burning : GoodIn wsL_law (va_wsS RL 118 yL_burning wsL_burning) := goodIn_app (goodIn_of _ (by decide +kernel)) ggL_law_L_burning
set_option maxRecDepth 20000 in
theorem ggL_law_X3_burning : GoodIn wsL_law wsX3_burning := goodIn_r _ [380, 101, 189, 190, 191, 5, 192, 114, 103, 104, 105, 381, 382, 383, 384, 188, 209, 210, 211, 212, 65, 106, 107, 108, 109, 668, 669, 670, 671, 672, 673, 674, 675, 676, 677, 678, 679, 680] (by decide +kernel) (by decide +kernel)
set_option maxRecDepth 20000 in
theorem gL_law_X3_burning : GoodIn wsL_law (wsV RL 120 RX3 yX3_burning wsX3_burning) := goodIn_app (goodIn_of _ (by decide +kernel)) ggL_law_X3_burning
set_option maxRecDepth 20000 in
theorem ggL_law_L_count : GoodIn wsL_law wsL_count := goodIn_ca (goodIn_r _ [387, 133, 388, 389, 390, 2, 391, 20, 392, 393, 16, 80, 138, 178, 236, 394, 139, 140, 141, 142, 143, 395, 396, 397, 19, 398, 399, 44, 400, 401, 402, 403, 404, 405, 406, 407, 408, 409, 410, 411, 412, 45, 664, 665, 666, 667, 698, 699, 700, 701, 702, 703, 704, 705, 706, 707, 708, 709, 710, 711, 712, 713, 681, 682, 683, 684, 685, 686, 687, 688, 689, 690, 691, 692, 693, 694, 695, 696, 697] (by decide +kernel) (by decide +kernel)) (goodIn_sub (fun _ h => List.mem_append_right _ h) (by decide +kernel))
set_option maxRecDepth 20000 in
theorem gL_law_L_count : GoodIn wsL_law (va_wsS RL 121 yL_count wsL_count) := goodIn_app (goodIn_of _ (by decide +kernel)) ggL_law_L_count
set_option maxRecDepth 20000 in
theorem ggL_law_X3_count : GoodIn wsL_law wsX3_count := goodIn_r _ [416, 101, 103, 104, 5, 105, 417, 418, 419, 420, 22, 69, 102, 114, 188, 256, 421, 422, 423, 424, 209, 210, 211, 212, 65, 425, 426, 427, 428, 381, 382, 383, 384, 106, 107, 108, 109, 668, 669, 670, 671, 672, 673, 674, 675, 676, 677, 678, 679, 680] (by decide +kernel) (by decide +kernel)
set_option maxRecDepth 20000 in
theorem gL_law_X3_count : GoodIn wsL_law (wsV RL 123 RX3 yX3_count wsX3_count) := goodIn_app (goodIn_of _ (by decide +kernel)) ggL_law_X3_count
set_option maxRecDepth 20000 in
theorem ggL_law_L_pass : GoodIn wsL_law wsL_pass := goodIn_ca (goodIn_r _ [431, 74, 432, 433, 434, 2, 435, 20, 16, 81, 82, 83, 84, 85, 436, 437, 438, 19, 439, 440, 441, 442, 443, 444, 445, 336, 53, 55, 446, 447, 448, 449, 450, 52, 45, 56, 54, 51, 451, 452, 453, 454, 455, 456, 48, 457, 333, 334, 335, 458, 459, 460, 15, 461, 34, 38, 29, 96, 462, 463, 464, 465, 33, 30, 31, 466, 467, 468, 469, 470, 471, 120, 117, 121, 46, 44, 472, 49, 57, 248, 249, 250, 251, 473, 474, 475, 476, 412, 477, 478, 479, 480, 481, 482, 483, 484, 485, 486, 487, 488, 489, 490, 50, 491, 492, 493, 494, 27, 153, 116, 118, 664, 665, 666, 667, 698, 699, 700, 701, 702, 703, 704, 705, 706, 707, 708, 709, 710, 711, 712, 713, 681, 682, 683, 684, 685, 686, 687, 688, 689, 690, 691, 692, 693, 694, 695, 696, 697] (by decide +kernel) (by decide +kernel)) (goodIn_sub (fun _ h => List.mem_append_left _ (List.mem_append_left _ (List.mem_append_right _ h))) (by decide +kernel))
set_option maxRecDepth 20000 in
theorem gL_law_L_pass : GoodIn wsL_law (va_wsS RL 124 yL_pass wsL_pass) := goodIn_app (goodIn_of _ (by decide +kernel)) ggL_law_L_pass
set_option maxRecDepth 20000 in
theorem ggL_law_X3_pass : GoodIn wsL_law wsX3_pass := goodIn_r _ [498, 101, 103, 104, 5, 105, 106, 107, 108, 109, 421, 422, 423, 424, 188, 209, 210, 211, 212, 65, 499, 500, 501, 502, 503, 504, 505, 506, 69, 507, 508, 509, 510, 256, 511, 512, 513, 514, 119, 120, 117, 121, 281, 282, 283, 284, 66, 515, 516, 517, 518, 67, 345, 346, 347, 348, 519, 520, 521, 522, 122, 123, 124, 125, 63, 314, 315, 316, 317, 64, 285, 286, 287, 288, 213, 214, 215, 216, 523, 524, 525, 526, 68, 527, 528, 529, 530, 62, 115, 116, 118, 668, 669, 670, 671, 672, 673, 674, 675, 676, 677, 678, 679, 680] (by decide +kernel) (by decide +kernel)
set_option maxRecDepth 20000 in
theorem gL_law_X3_pass : GoodIn wsL_law (wsV RL 126 RX3 yX3_pass wsX3_pass) := goodIn_app (goodIn_of _ (by decide +kernel)) ggL_law_X3_pass
set_option maxRecDepth 20000 in
theorem ggL_law_L_dawn : GoodIn wsL_law wsL_dawn := goodIn_ca (goodIn_r _ [533, 75, 534, 535, 536, 2, 537, 89, 90, 20, 392, 16, 395, 396, 397, 19, 398, 399, 44, 538, 539, 540, 541, 440, 542, 412, 48, 336, 482, 483, 484, 485, 472, 543, 244, 245, 246, 51, 247, 56, 248, 249, 250, 251, 53, 55, 664, 665, 666, 667, 698, 699, 700, 701, 702, 703, 704, 705, 706, 707, 708, 709, 710, 711, 712, 713, 681, 682, 683, 684, 685, 686, 687, 688, 689, 690, 691, 692, 693, 694, 695, 696, 697] (by decide +kernel) (by decide +kernel)) (goodIn_sub (fun _ h => List.mem_append_left _ (List.mem_append_right _ h)) (by decide +kernel))
set_option maxRecDepth 20000 in
theorem gL_law_L_dawn : GoodIn wsL_law (va_wsS RL 127 yL_dawn wsL_dawn) := goodIn_app (goodIn_of _ (by decide +kernel)) ggL_law_L_dawn
set_option maxRecDepth 20000 in
theorem ggL_law_X3_dawn : GoodIn wsL_law wsX3_dawn := goodIn_r _ [547, 101, 188, 256, 69, 503, 504, 505, 5, 506, 106, 107, 108, 109, 421, 422, 423, 424, 209, 210, 211, 212, 65, 213, 214, 215, 216, 281, 282, 283, 284, 66, 285, 286, 287, 288, 668, 669, 670, 671, 672, 673, 674, 675, 676, 677, 678, 679, 680] (by decide +kernel) (by decide +kernel)
set_option maxRecDepth 20000 in
theorem gL_law_X3_dawn : GoodIn wsL_law (wsV RL 130 RX3 yX3_dawn wsX3_dawn) := goodIn_app (goodIn_of _ (by decide +kernel)) ggL_law_X3_dawn
set_option maxRecDepth 20000 in
theorem ggL_law_L_comes : GoodIn wsL_law wsL_comes := goodIn_ca (goodIn_r _ [550, 133, 551, 552, 553, 2, 554, 16, 178, 21, 20, 392, 330, 139, 140, 141, 142, 143, 555, 556, 557, 19, 558, 440, 542, 481, 44, 559, 164, 165, 166, 45, 46, 48, 49, 50, 51, 52, 53, 54, 55, 56, 57, 436, 437, 438, 439, 441, 442, 443, 444, 445, 336, 446, 447, 448, 449, 450, 451, 452, 453, 454, 455, 456, 457, 333, 334, 335, 458, 459, 460, 15, 461, 34, 38, 29, 96, 462, 463, 464, 465, 33, 30, 31, 466, 467, 468, 469, 470, 471, 120, 117, 121, 472, 248, 249, 250, 251, 473, 474, 475, 476, 412, 477, 478, 479, 480, 482, 483, 484, 485, 486, 487, 488, 489, 490, 491, 492, 493, 494, 27, 153, 116, 118, 664, 665, 666, 667, 681, 682, 683, 684, 685, 686, 687, 688, 689, 690, 691, 692, 693, 694, 695, 696, 697, 698, 699, 700, 701, 702, 703, 704, 705, 706, 707, 708, 709, 710, 711, 712, 713] (by decide +kernel) (by decide +kernel)) (goodIn_sub (fun _ h => List.mem_append_right _ h) (by decide +kernel))
set_option maxRecDepth 20000 in
theorem gL_law_L_comes : GoodIn wsL_law (va_wsS RL 131 yL_comes wsL_comes) := goodIn_app (goodIn_of _ (by decide +kernel)) ggL_law_L_comes
set_option maxRecDepth 20000 in
theorem ggL_law_X3_comes : GoodIn wsL_law wsX3_comes := goodIn_r _ [563, 101, 205, 206, 207, 5, 208, 188, 103, 104, 105, 106, 107, 108, 109, 564, 565, 566, 567, 568, 65, 569, 570, 571, 572, 573, 66, 69, 503, 504, 505, 506, 507, 508, 509, 510, 256, 511, 512, 513, 514, 119, 120, 117, 121, 281, 282, 283, 284, 515, 516, 517, 518, 67, 209, 210, 211, 212, 345, 346, 347, 348, 519, 520, 521, 522, 122, 123, 124, 125, 63, 314, 315, 316, 317, 64, 285, 286, 287, 288, 213, 214, 215, 216, 523, 524, 525, 526, 68, 527, 528, 529, 530, 62, 115, 116, 118, 574, 575, 576, 577, 163, 164, 165, 166, 668, 669, 670, 671, 672, 673, 674, 675, 676, 677, 678, 679, 680] (by decide +kernel) (by decide +kernel)
set_option maxRecDepth 20000 in
theorem gL_law_X3_comes : GoodIn wsL_law (wsV RL 133 RX3 yX3_comes wsX3_comes) := goodIn_app (goodIn_of _ (by decide +kernel)) ggL_law_X3_comes
set_option maxRecDepth 20000 in
theorem ggL_law_X2_darkest : GoodIn wsL_law wsX2_darkest := goodIn_r _ [581, 21, 20, 392, 16, 582, 583, 584, 2, 585, 23, 555, 556, 557, 19, 558, 440, 542, 481, 44, 559, 164, 165, 166, 45, 46, 48, 49, 50, 51, 52, 53, 54, 55, 56, 57, 436, 437, 438, 439, 441, 442, 443, 444, 445, 336, 446, 447, 448, 449, 450, 451, 452, 453, 454, 455, 456, 457, 333, 334, 335, 458, 459, 460, 15, 461, 34, 38, 29, 96, 462, 463, 464, 465, 33, 30, 31, 466, 467, 468, 469, 470, 471, 120, 117, 121, 472, 248, 249, 250, 251, 473, 474, 475, 476, 412, 477, 478, 479, 480, 482, 483, 484, 485, 486, 487, 488, 489, 490, 491, 492, 493, 494, 27, 153, 116, 118, 586, 587, 588, 589, 138, 590, 405, 406, 407, 591, 592, 593, 594, 664, 665, 666, 667, 698, 699, 700, 701, 702, 703, 704, 705, 706, 707, 708, 709, 710, 711, 712, 713, 681, 682, 683, 684, 685, 686, 687, 688, 689, 690, 691, 692, 693, 694, 695, 696, 697] (by decide +kernel) (by decide +kernel)
set_option maxRecDepth 20000 in
theorem gL_law_X2_darkest : GoodIn wsL_law (wsV RL 134 RX2 yX2_darkest wsX2_darkest) := goodIn_app (goodIn_of _ (by decide +kernel)) ggL_law_X2_darkest
set_option maxRecDepth 20000 in
theorem ggL_law_X3_darkest : GoodIn wsL_law wsX3_darkest := goodIn_r _ [598, 101, 22, 114, 564, 565, 566, 5, 567, 568, 65, 569, 570, 571, 572, 573, 66, 69, 503, 504, 505, 506, 507, 508, 509, 510, 256, 188, 511, 512, 513, 514, 119, 120, 117, 121, 281, 282, 283, 284, 515, 516, 517, 518, 67, 209, 210, 211, 212, 345, 346, 347, 348, 519, 520, 521, 522, 122, 123, 124, 125, 63, 314, 315, 316, 317, 64, 285, 286, 287, 288, 213, 214, 215, 216, 523, 524, 525, 526, 68, 527, 528, 529, 530, 62, 115, 116, 118, 381, 382, 383, 384, 574, 575, 576, 577, 163, 164, 165, 166, 668, 669, 670, 671, 672, 673, 674, 675, 676, 677, 678, 679, 680] (by decide +kernel) (by decide +kernel)
set_option maxRecDepth 20000 in
theorem gL_law_X3_darkest : GoodIn wsL_law (wsV RL 137 RX3 yX3_darkest wsX3_darkest) := goodIn_app (goodIn_of _ (by decide +kernel)) ggL_law_X3_darkest
set_option maxRecDepth 20000 in
theorem ggL_law_L_needs : GoodIn wsL_law wsL_needs := goodIn_ca (goodIn_r _ [601, 133, 602, 603, 604, 2, 605, 16, 178, 224, 606, 116, 117, 118, 139, 140, 141, 142, 143, 607, 492, 493, 15, 494, 33, 27, 30, 31, 153, 664, 665, 666, 667, 681, 682, 683, 684, 685, 686, 687, 688, 689, 690, 691, 692, 693, 694, 695, 696, 697] (by decide +kernel) (by decide +kernel)) (goodIn_sub (fun _ h => List.mem_append_right _ h) (by decide +kernel))
set_option maxRecDepth 20000 in
theorem gL_law_L_needs : GoodIn wsL_law (va_wsS RL 138 yL_needs wsL_needs) := goodIn_app (goodIn_of _ (by decide +kernel)) ggL_law_L_needs
set_option maxRecDepth 20000 in
theorem ggL_law_X3_needs : GoodIn wsL_law wsX3_needs := goodIn_r _ [611, 101, 68, 115, 116, 117, 118, 205, 206, 207, 5, 208, 188, 103, 104, 105, 106, 107, 108, 109, 527, 528, 529, 530, 62, 209, 210, 211, 212, 65, 122, 123, 124, 125, 63, 668, 669, 670, 671, 672, 673, 674, 675, 676, 677, 678, 679, 680] (by decide +kernel) (by decide +kernel)
set_option maxRecDepth 20000 in
theorem gL_law_X3_needs : GoodIn wsL_law (wsV RL 140 RX3 yX3_needs wsX3_needs) := goodIn_app (goodIn_of _ (by decide +kernel)) ggL_law_X3_needs
set_option maxRecDepth 20000 in
theorem ggL_law_L_foresee : GoodIn wsL_law wsL_foresee := goodIn_ca (goodIn_ca (goodIn_r _ [614, 74, 133, 615, 616, 617, 2, 618, 21, 20, 16, 394, 81, 82, 83, 84, 85, 139, 140, 141, 142, 143, 555, 556, 557, 19, 558, 440, 542, 481, 44, 559, 164, 165, 166, 45, 46, 48, 49, 50, 51, 52, 53, 54, 55, 56, 57, 436, 437, 438, 439, 441, 442, 443, 444, 445, 336, 446, 447, 448, 449, 450, 451, 452, 453, 454, 455, 456, 457, 333, 334, 335, 458, 459, 460, 15, 461, 34, 38, 29, 96, 462, 463, 464, 465, 33, 30, 31, 466, 467, 468, 469, 470, 471, 120, 117, 121, 472, 248, 249, 250, 251, 473, 474, 475, 476, 412, 477, 478, 479, 480, 482, 483, 484, 485, 486, 487, 488, 489, 490, 491, 492, 493, 494, 27, 153, 116, 118, 395, 396, 397, 398, 399, 400, 401, 402, 403, 404, 405, 406, 407, 664, 665, 666, 667, 698, 699, 700, 701, 702, 703, 704, 705, 706, 707, 708, 709, 710, 711, 712, 713, 681, 682, 683, 684, 685, 686, 687, 688, 689, 690, 691, 692, 693, 694, 695, 696, 697] (by decide +kernel) (by decide +kernel)) (goodIn_sub (fun _ h => List.mem_append_left _ (List.mem_append_left _ (List.mem_append_right _ h))) (by decide +kernel))) (goodIn_sub (fun _ h => List.mem_append_right _ h) (by decide +kernel))
set_option maxRecDepth 20000 in
theorem gL_law_L_foresee : GoodIn wsL_law (va_wsS RL 141 yL_foresee wsL_foresee) := goodIn_app (goodIn_of _ (by decide +kernel)) ggL_law_L_foresee
set_option maxRecDepth 20000 in
theorem ggL_law_X3_foresee : GoodIn wsL_law wsX3_foresee := goodIn_r _ [622, 101, 69, 103, 104, 5, 105, 106, 107, 108, 109, 564, 565, 566, 567, 568, 65, 569, 570, 571, 572, 573, 66, 499, 500, 501, 502, 503, 504, 505, 506, 507, 508, 509, 510, 256, 188, 511, 512, 513, 514, 119, 120, 117, 121, 281, 282, 283, 284, 515, 516, 517, 518, 67, 209, 210, 211, 212, 345, 346, 347, 348, 519, 520, 521, 522, 122, 123, 124, 125, 63, 314, 315, 316, 317, 64, 285, 286, 287, 288, 213, 214, 215, 216, 523, 524, 525, 526, 68, 527, 528, 529, 530, 62, 115, 116, 118, 421, 422, 423, 424, 425, 426, 427, 428, 114, 381, 382, 383, 384, 574, 575, 576, 577, 163, 164, 165, 166, 668, 669, 670, 671, 672, 673, 674, 675, 676, 677, 678, 679, 680] (by decide +kernel) (by decide +kernel)
set_option maxRecDepth 20000 in
theorem gL_law_X3_foresee : GoodIn wsL_law (wsV RL 143 RX3 yX3_foresee wsX3_foresee) := goodIn_app (goodIn_of _ (by decide +kernel)) ggL_law_X3_foresee
set_option maxRecDepth 20000 in
theorem ggL_law_X2_mean : GoodIn wsL_law wsX2_mean := goodIn_r _ [626, 16, 178, 20, 408, 409, 410, 19, 411, 412, 45, 664, 665, 666, 667, 681, 682, 683, 684, 685, 686, 687, 688, 689, 690, 691, 692, 693, 694, 695, 696, 697, 698, 699, 700, 701, 702, 703, 704, 705, 706, 707, 708, 709, 710, 711, 712, 713] (by decide +kernel) (by decide +kernel)
set_option maxRecDepth 20000 in
theorem gL_law_X2_mean : GoodIn wsL_law (wsV RL 144 RX2 yX2_mean wsX2_mean) := goodIn_app (goodIn_of _ (by decide +kernel)) ggL_law_X2_mean
set_option maxRecDepth 20000 in
theorem ggL_law_X3_mean : GoodIn wsL_law wsX3_mean := goodIn_r _ [630, 101, 188, 421, 422, 423, 5, 424, 209, 210, 211, 212, 65, 668, 669, 670, 671, 672, 673, 674, 675, 676, 677, 678, 679, 680] (by decide +kernel) (by decide +kernel)
set_option maxRecDepth 20000 in
theorem gL_law_X3_mean : GoodIn wsL_law (wsV RL 148 RX3 yX3_mean wsX3_mean) := goodIn_app (goodIn_of _ (by decide +kernel)) ggL_law_X3_mean
set_option maxRecDepth 20000 in
theorem ggL_law_X2_digest : GoodIn wsL_law wsX2_digest := goodIn_ca (goodIn_r _ [634, 635, 636, 16, 224, 637, 389, 390, 2, 391, 20, 392, 393, 80, 138, 178, 236, 394, 139, 140, 141, 142, 143, 395, 396, 397, 19, 398, 399, 44, 400, 401, 402, 403, 404, 405, 406, 407, 408, 409, 410, 411, 412, 45, 638, 639, 640, 641, 642, 643, 644, 645, 646, 373, 374, 375, 376, 647, 648, 649, 650, 651, 322, 323, 324, 325, 326, 200, 327, 328, 329, 330, 331, 332, 333, 334, 335, 336, 53, 652, 653, 654, 655, 264, 656, 657, 353, 354, 355, 356, 357, 237, 358, 359, 360, 664, 665, 666, 667, 681, 682, 683, 684, 685, 686, 687, 688, 689, 690, 691, 692, 693, 694, 695, 696, 697, 698, 699, 700, 701, 702, 703, 704, 705, 706, 707, 708, 709, 710, 711, 712, 713] (by decide +kernel) (by decide +kernel)) (goodIn_sub (fun _ h => List.mem_append_right _ h) (by decide +kernel))
set_option maxRecDepth 20000 in
theorem gL_law_X2_digest : GoodIn wsL_law (wsV RL 149 RX2 yX2_digest wsX2_digest) := goodIn_app (goodIn_of _ (by decide +kernel)) ggL_law_X2_digest
set_option maxRecDepth 20000 in
theorem ggL_law_X3_digest : GoodIn wsL_law wsX3_digest := goodIn_r _ [661, 101, 662, 663, 102, 62, 114, 188, 256, 67, 68, 417, 418, 419, 5, 420, 22, 69, 421, 422, 423, 424, 209, 210, 211, 212, 65, 425, 426, 427, 428, 381, 382, 383, 384, 122, 123, 124, 125, 63, 341, 342, 343, 344, 345, 346, 347, 348, 281, 282, 283, 284, 66, 365, 366, 367, 368, 668, 669, 670, 671, 672, 673, 674, 675, 676, 677, 678, 679, 680] (by decide +kernel) (by decide +kernel)
set_option maxRecDepth 20000 in
theorem gL_law_X3_digest : GoodIn wsL_law (wsV RL 153 RX3 yX3_digest wsX3_digest) := goodIn_app (goodIn_of _ (by decide +kernel)) ggL_law_X3_digest
theorem dL_law_0 : decode cL_law 0 = .ok (.new 8, 3) := by decide +kernel
theorem dL_law_3 : decode cL_law 3 = .ok (.dup, 1) := by decide +kernel
theorem dL_law_4 : decode cL_law 4 = .ok (.invokespecial 73, 3) := by decide +kernel
theorem dL_law_7 : decode cL_law 7 = .ok (.astore_n 1, 1) := by decide +kernel
theorem dL_law_8 : decode cL_law 8 = .ok (.new 74, 3) := by decide +kernel
theorem dL_law_11 : decode cL_law 11 = .ok (.dup, 1) := by decide +kernel
theorem dL_law_12 : decode cL_law 12 = .ok (.invokespecial 76, 3) := by decide +kernel
theorem dL_law_15 : decode cL_law 15 = .ok (.astore_n 2, 1) := by decide +kernel
theorem dL_law_16 : decode cL_law 16 = .ok (.iconst 1, 1) := by decide +kernel
theorem dL_law_17 : decode cL_law 17 = .ok (.newarray .long, 2) := by decide +kernel
theorem dL_law_19 : decode cL_law 19 = .ok (.astore_n 3, 1) := by decide +kernel
theorem dL_law_20 : decode cL_law 20 = .ok (.iconst 0, 1) := by decide +kernel
theorem dL_law_21 : decode cL_law 21 = .ok (.istore 4, 2) := by decide +kernel
theorem dL_law_23 : decode cL_law 23 = .ok (.iload 4, 2) := by decide +kernel
theorem dL_law_25 : decode cL_law 25 = .ok (.aload_n 0, 1) := by decide +kernel
theorem dL_law_26 : decode cL_law 26 = .ok (.arraylength, 1) := by decide +kernel
theorem dL_law_27 : decode cL_law 27 = .ok (.iconst 4, 1) := by decide +kernel
theorem dL_law_28 : decode cL_law 28 = .ok (.isub, 1) := by decide +kernel
theorem dL_law_29 : decode cL_law 29 = .ok (.if_icmp .gt 1333, 3) := by decide +kernel
theorem dL_law_32 : decode cL_law 32 = .ok (.aload_n 0, 1) := by decide +kernel
theorem dL_law_33 : decode cL_law 33 = .ok (.iload 4, 2) := by decide +kernel
theorem dL_law_35 : decode cL_law 35 = .ok (.iaload, 1) := by decide +kernel
theorem dL_law_36 : decode cL_law 36 = .ok (.bipush 31, 2) := by decide +kernel
theorem dL_law_38 : decode cL_law 38 = .ok (.iand, 1) := by decide +kernel
theorem dL_law_39 : decode cL_law 39 = .ok (.tableswitch 1317 0 20 #[97, 153, 233, 301, 369, 437, 517, 585, 653, 721, 789, 857, 913, 969, 1025, 1069, 1125, 1138, 1194, 1262, 1303], 97) := by decide +kernel
theorem dL_law_136 : decode cL_law 136 = .ok (.aload_n 1, 1) := by decide +kernel
theorem dL_law_137 : decode cL_law 137 = .ok (.aload_n 0, 1) := by decide +kernel
theorem dL_law_138 : decode cL_law 138 = .ok (.iload 4, 2) := by decide +kernel
theorem dL_law_140 : decode cL_law 140 = .ok (.iconst 1, 1) := by decide +kernel
theorem dL_law_141 : decode cL_law 141 = .ok (.iadd, 1) := by decide +kernel
theorem dL_law_142 : decode cL_law 142 = .ok (.iaload, 1) := by decide +kernel
theorem dL_law_143 : decode cL_law 143 = .ok (.aload_n 3, 1) := by decide +kernel
theorem dL_law_144 : decode cL_law 144 = .ok (.invokestatic 77, 3) := by decide +kernel
theorem dL_law_147 : decode cL_law 147 = .ok (.istore 5, 2) := by decide +kernel
theorem dL_law_149 : decode cL_law 149 = .ok (.aload_n 2, 1) := by decide +kernel
theorem dL_law_150 : decode cL_law 150 = .ok (.aload_n 0, 1) := by decide +kernel
theorem dL_law_151 : decode cL_law 151 = .ok (.iload 4, 2) := by decide +kernel
theorem dL_law_153 : decode cL_law 153 = .ok (.iconst 1, 1) := by decide +kernel
theorem dL_law_154 : decode cL_law 154 = .ok (.iadd, 1) := by decide +kernel
theorem dL_law_155 : decode cL_law 155 = .ok (.iaload, 1) := by decide +kernel
theorem dL_law_156 : decode cL_law 156 = .ok (.invokevirtual 82, 3) := by decide +kernel
theorem dL_law_159 : decode cL_law 159 = .ok (.istore 6, 2) := by decide +kernel
theorem dL_law_161 : decode cL_law 161 = .ok (.aload_n 2, 1) := by decide +kernel
theorem dL_law_162 : decode cL_law 162 = .ok (.invokevirtual 83, 3) := by decide +kernel
theorem dL_law_165 : decode cL_law 165 = .ok (.iload 5, 2) := by decide +kernel
theorem dL_law_167 : decode cL_law 167 = .ok (.if_icmp .eq 5, 3) := by decide +kernel
theorem dL_law_170 : decode cL_law 170 = .ok (.iconst 0, 1) := by decide +kernel
theorem dL_law_171 : decode cL_law 171 = .ok (.ireturn, 1) := by decide +kernel
theorem dL_law_172 : decode cL_law 172 = .ok (.iload 5, 2) := by decide +kernel
theorem dL_law_174 : decode cL_law 174 = .ok (.ifCond .ne 15, 3) := by decide +kernel
theorem dL_law_177 : decode cL_law 177 = .ok (.aload_n 3, 1) := by decide +kernel
theorem dL_law_178 : decode cL_law 178 = .ok (.iconst 0, 1) := by decide +kernel
theorem dL_law_179 : decode cL_law 179 = .ok (.laload, 1) := by decide +kernel
theorem dL_law_180 : decode cL_law 180 = .ok (.iload 6, 2) := by decide +kernel
theorem dL_law_182 : decode cL_law 182 = .ok (.i2l, 1) := by decide +kernel
theorem dL_law_183 : decode cL_law 183 = .ok (.lcmp, 1) := by decide +kernel
theorem dL_law_184 : decode cL_law 184 = .ok (.ifCond .eq 5, 3) := by decide +kernel
theorem dL_law_187 : decode cL_law 187 = .ok (.iconst 0, 1) := by decide +kernel
theorem dL_law_188 : decode cL_law 188 = .ok (.ireturn, 1) := by decide +kernel
theorem dL_law_189 : decode cL_law 189 = .ok (.goto 1167, 3) := by decide +kernel
theorem dL_law_192 : decode cL_law 192 = .ok (.aload_n 1, 1) := by decide +kernel
theorem dL_law_193 : decode cL_law 193 = .ok (.aload_n 0, 1) := by decide +kernel
theorem dL_law_194 : decode cL_law 194 = .ok (.iload 4, 2) := by decide +kernel
theorem dL_law_196 : decode cL_law 196 = .ok (.iconst 1, 1) := by decide +kernel
theorem dL_law_197 : decode cL_law 197 = .ok (.iadd, 1) := by decide +kernel
theorem dL_law_198 : decode cL_law 198 = .ok (.iaload, 1) := by decide +kernel
theorem dL_law_199 : decode cL_law 199 = .ok (.aload_n 0, 1) := by decide +kernel
theorem dL_law_200 : decode cL_law 200 = .ok (.iload 4, 2) := by decide +kernel
theorem dL_law_202 : decode cL_law 202 = .ok (.iconst 2, 1) := by decide +kernel
theorem dL_law_203 : decode cL_law 203 = .ok (.iadd, 1) := by decide +kernel
theorem dL_law_204 : decode cL_law 204 = .ok (.iaload, 1) := by decide +kernel
theorem dL_law_205 : decode cL_law 205 = .ok (.aload_n 0, 1) := by decide +kernel
theorem dL_law_206 : decode cL_law 206 = .ok (.iload 4, 2) := by decide +kernel
theorem dL_law_208 : decode cL_law 208 = .ok (.iconst 3, 1) := by decide +kernel
theorem dL_law_209 : decode cL_law 209 = .ok (.iadd, 1) := by decide +kernel
theorem dL_law_210 : decode cL_law 210 = .ok (.iaload, 1) := by decide +kernel
theorem dL_law_211 : decode cL_law 211 = .ok (.aload_n 3, 1) := by decide +kernel
theorem dL_law_212 : decode cL_law 212 = .ok (.invokestatic 86, 3) := by decide +kernel
theorem dL_law_215 : decode cL_law 215 = .ok (.istore 5, 2) := by decide +kernel
theorem dL_law_217 : decode cL_law 217 = .ok (.aload_n 2, 1) := by decide +kernel
theorem dL_law_218 : decode cL_law 218 = .ok (.aload_n 0, 1) := by decide +kernel
theorem dL_law_219 : decode cL_law 219 = .ok (.iload 4, 2) := by decide +kernel
theorem dL_law_221 : decode cL_law 221 = .ok (.iconst 1, 1) := by decide +kernel
theorem dL_law_222 : decode cL_law 222 = .ok (.iadd, 1) := by decide +kernel
theorem dL_law_223 : decode cL_law 223 = .ok (.iaload, 1) := by decide +kernel
theorem dL_law_224 : decode cL_law 224 = .ok (.aload_n 0, 1) := by decide +kernel
theorem dL_law_225 : decode cL_law 225 = .ok (.iload 4, 2) := by decide +kernel
theorem dL_law_227 : decode cL_law 227 = .ok (.iconst 2, 1) := by decide +kernel
theorem dL_law_228 : decode cL_law 228 = .ok (.iadd, 1) := by decide +kernel
theorem dL_law_229 : decode cL_law 229 = .ok (.iaload, 1) := by decide +kernel
theorem dL_law_230 : decode cL_law 230 = .ok (.aload_n 0, 1) := by decide +kernel
theorem dL_law_231 : decode cL_law 231 = .ok (.iload 4, 2) := by decide +kernel
theorem dL_law_233 : decode cL_law 233 = .ok (.iconst 3, 1) := by decide +kernel
theorem dL_law_234 : decode cL_law 234 = .ok (.iadd, 1) := by decide +kernel
theorem dL_law_235 : decode cL_law 235 = .ok (.iaload, 1) := by decide +kernel
theorem dL_law_236 : decode cL_law 236 = .ok (.invokevirtual 89, 3) := by decide +kernel
theorem dL_law_239 : decode cL_law 239 = .ok (.istore 6, 2) := by decide +kernel
theorem dL_law_241 : decode cL_law 241 = .ok (.aload_n 2, 1) := by decide +kernel
theorem dL_law_242 : decode cL_law 242 = .ok (.invokevirtual 83, 3) := by decide +kernel
theorem dL_law_245 : decode cL_law 245 = .ok (.iload 5, 2) := by decide +kernel
theorem dL_law_247 : decode cL_law 247 = .ok (.if_icmp .eq 5, 3) := by decide +kernel
theorem dL_law_250 : decode cL_law 250 = .ok (.iconst 0, 1) := by decide +kernel
theorem dL_law_251 : decode cL_law 251 = .ok (.ireturn, 1) := by decide +kernel
theorem dL_law_252 : decode cL_law 252 = .ok (.iload 5, 2) := by decide +kernel
theorem dL_law_254 : decode cL_law 254 = .ok (.ifCond .ne 15, 3) := by decide +kernel
theorem dL_law_257 : decode cL_law 257 = .ok (.aload_n 3, 1) := by decide +kernel
theorem dL_law_258 : decode cL_law 258 = .ok (.iconst 0, 1) := by decide +kernel
theorem dL_law_259 : decode cL_law 259 = .ok (.laload, 1) := by decide +kernel
theorem dL_law_260 : decode cL_law 260 = .ok (.iload 6, 2) := by decide +kernel
theorem dL_law_262 : decode cL_law 262 = .ok (.i2l, 1) := by decide +kernel
theorem dL_law_263 : decode cL_law 263 = .ok (.lcmp, 1) := by decide +kernel
theorem dL_law_264 : decode cL_law 264 = .ok (.ifCond .eq 5, 3) := by decide +kernel
theorem dL_law_267 : decode cL_law 267 = .ok (.iconst 0, 1) := by decide +kernel
theorem dL_law_268 : decode cL_law 268 = .ok (.ireturn, 1) := by decide +kernel
theorem dL_law_269 : decode cL_law 269 = .ok (.goto 1087, 3) := by decide +kernel
theorem dL_law_272 : decode cL_law 272 = .ok (.aload_n 1, 1) := by decide +kernel
theorem dL_law_273 : decode cL_law 273 = .ok (.aload_n 0, 1) := by decide +kernel
theorem dL_law_274 : decode cL_law 274 = .ok (.iload 4, 2) := by decide +kernel
theorem dL_law_276 : decode cL_law 276 = .ok (.iconst 1, 1) := by decide +kernel
theorem dL_law_277 : decode cL_law 277 = .ok (.iadd, 1) := by decide +kernel
theorem dL_law_278 : decode cL_law 278 = .ok (.iaload, 1) := by decide +kernel
theorem dL_law_279 : decode cL_law 279 = .ok (.aload_n 0, 1) := by decide +kernel
theorem dL_law_280 : decode cL_law 280 = .ok (.iload 4, 2) := by decide +kernel
theorem dL_law_282 : decode cL_law 282 = .ok (.iconst 2, 1) := by decide +kernel
theorem dL_law_283 : decode cL_law 283 = .ok (.iadd, 1) := by decide +kernel
theorem dL_law_284 : decode cL_law 284 = .ok (.iaload, 1) := by decide +kernel
theorem dL_law_285 : decode cL_law 285 = .ok (.aload_n 3, 1) := by decide +kernel
theorem dL_law_286 : decode cL_law 286 = .ok (.invokestatic 90, 3) := by decide +kernel
theorem dL_law_289 : decode cL_law 289 = .ok (.istore 5, 2) := by decide +kernel
theorem dL_law_291 : decode cL_law 291 = .ok (.aload_n 2, 1) := by decide +kernel
theorem dL_law_292 : decode cL_law 292 = .ok (.aload_n 0, 1) := by decide +kernel
theorem dL_law_293 : decode cL_law 293 = .ok (.iload 4, 2) := by decide +kernel
theorem dL_law_295 : decode cL_law 295 = .ok (.iconst 1, 1) := by decide +kernel
theorem dL_law_296 : decode cL_law 296 = .ok (.iadd, 1) := by decide +kernel
theorem dL_law_297 : decode cL_law 297 = .ok (.iaload, 1) := by decide +kernel
theorem dL_law_298 : decode cL_law 298 = .ok (.aload_n 0, 1) := by decide +kernel
theorem dL_law_299 : decode cL_law 299 = .ok (.iload 4, 2) := by decide +kernel
theorem dL_law_301 : decode cL_law 301 = .ok (.iconst 2, 1) := by decide +kernel
theorem dL_law_302 : decode cL_law 302 = .ok (.iadd, 1) := by decide +kernel
theorem dL_law_303 : decode cL_law 303 = .ok (.iaload, 1) := by decide +kernel
theorem dL_law_304 : decode cL_law 304 = .ok (.invokevirtual 93, 3) := by decide +kernel
theorem dL_law_307 : decode cL_law 307 = .ok (.istore 6, 2) := by decide +kernel
theorem dL_law_309 : decode cL_law 309 = .ok (.aload_n 2, 1) := by decide +kernel
theorem dL_law_310 : decode cL_law 310 = .ok (.invokevirtual 83, 3) := by decide +kernel
theorem dL_law_313 : decode cL_law 313 = .ok (.iload 5, 2) := by decide +kernel
theorem dL_law_315 : decode cL_law 315 = .ok (.if_icmp .eq 5, 3) := by decide +kernel
theorem dL_law_318 : decode cL_law 318 = .ok (.iconst 0, 1) := by decide +kernel
theorem dL_law_319 : decode cL_law 319 = .ok (.ireturn, 1) := by decide +kernel
theorem dL_law_320 : decode cL_law 320 = .ok (.iload 5, 2) := by decide +kernel
theorem dL_law_322 : decode cL_law 322 = .ok (.ifCond .ne 15, 3) := by decide +kernel
theorem dL_law_325 : decode cL_law 325 = .ok (.aload_n 3, 1) := by decide +kernel
theorem dL_law_326 : decode cL_law 326 = .ok (.iconst 0, 1) := by decide +kernel
theorem dL_law_327 : decode cL_law 327 = .ok (.laload, 1) := by decide +kernel
theorem dL_law_328 : decode cL_law 328 = .ok (.iload 6, 2) := by decide +kernel
theorem dL_law_330 : decode cL_law 330 = .ok (.i2l, 1) := by decide +kernel
theorem dL_law_331 : decode cL_law 331 = .ok (.lcmp, 1) := by decide +kernel
theorem dL_law_332 : decode cL_law 332 = .ok (.ifCond .eq 5, 3) := by decide +kernel
theorem dL_law_335 : decode cL_law 335 = .ok (.iconst 0, 1) := by decide +kernel
theorem dL_law_336 : decode cL_law 336 = .ok (.ireturn, 1) := by decide +kernel
theorem dL_law_337 : decode cL_law 337 = .ok (.goto 1019, 3) := by decide +kernel
theorem dL_law_340 : decode cL_law 340 = .ok (.aload_n 1, 1) := by decide +kernel
theorem dL_law_341 : decode cL_law 341 = .ok (.aload_n 0, 1) := by decide +kernel
theorem dL_law_342 : decode cL_law 342 = .ok (.iload 4, 2) := by decide +kernel
theorem dL_law_344 : decode cL_law 344 = .ok (.iconst 1, 1) := by decide +kernel
theorem dL_law_345 : decode cL_law 345 = .ok (.iadd, 1) := by decide +kernel
theorem dL_law_346 : decode cL_law 346 = .ok (.iaload, 1) := by decide +kernel
theorem dL_law_347 : decode cL_law 347 = .ok (.aload_n 0, 1) := by decide +kernel
theorem dL_law_348 : decode cL_law 348 = .ok (.iload 4, 2) := by decide +kernel
theorem dL_law_350 : decode cL_law 350 = .ok (.iconst 2, 1) := by decide +kernel
theorem dL_law_351 : decode cL_law 351 = .ok (.iadd, 1) := by decide +kernel
theorem dL_law_352 : decode cL_law 352 = .ok (.iaload, 1) := by decide +kernel
theorem dL_law_353 : decode cL_law 353 = .ok (.aload_n 3, 1) := by decide +kernel
theorem dL_law_354 : decode cL_law 354 = .ok (.invokestatic 94, 3) := by decide +kernel
theorem dL_law_357 : decode cL_law 357 = .ok (.istore 5, 2) := by decide +kernel
theorem dL_law_359 : decode cL_law 359 = .ok (.aload_n 2, 1) := by decide +kernel
theorem dL_law_360 : decode cL_law 360 = .ok (.aload_n 0, 1) := by decide +kernel
theorem dL_law_361 : decode cL_law 361 = .ok (.iload 4, 2) := by decide +kernel
theorem dL_law_363 : decode cL_law 363 = .ok (.iconst 1, 1) := by decide +kernel
theorem dL_law_364 : decode cL_law 364 = .ok (.iadd, 1) := by decide +kernel
theorem dL_law_365 : decode cL_law 365 = .ok (.iaload, 1) := by decide +kernel
theorem dL_law_366 : decode cL_law 366 = .ok (.aload_n 0, 1) := by decide +kernel
theorem dL_law_367 : decode cL_law 367 = .ok (.iload 4, 2) := by decide +kernel
theorem dL_law_369 : decode cL_law 369 = .ok (.iconst 2, 1) := by decide +kernel
theorem dL_law_370 : decode cL_law 370 = .ok (.iadd, 1) := by decide +kernel
theorem dL_law_371 : decode cL_law 371 = .ok (.iaload, 1) := by decide +kernel
theorem dL_law_372 : decode cL_law 372 = .ok (.invokevirtual 96, 3) := by decide +kernel
theorem dL_law_375 : decode cL_law 375 = .ok (.istore 6, 2) := by decide +kernel
theorem dL_law_377 : decode cL_law 377 = .ok (.aload_n 2, 1) := by decide +kernel
theorem dL_law_378 : decode cL_law 378 = .ok (.invokevirtual 83, 3) := by decide +kernel
theorem dL_law_381 : decode cL_law 381 = .ok (.iload 5, 2) := by decide +kernel
theorem dL_law_383 : decode cL_law 383 = .ok (.if_icmp .eq 5, 3) := by decide +kernel
theorem dL_law_386 : decode cL_law 386 = .ok (.iconst 0, 1) := by decide +kernel
theorem dL_law_387 : decode cL_law 387 = .ok (.ireturn, 1) := by decide +kernel
theorem dL_law_388 : decode cL_law 388 = .ok (.iload 5, 2) := by decide +kernel
theorem dL_law_390 : decode cL_law 390 = .ok (.ifCond .ne 15, 3) := by decide +kernel
theorem dL_law_393 : decode cL_law 393 = .ok (.aload_n 3, 1) := by decide +kernel
theorem dL_law_394 : decode cL_law 394 = .ok (.iconst 0, 1) := by decide +kernel
theorem dL_law_395 : decode cL_law 395 = .ok (.laload, 1) := by decide +kernel
theorem dL_law_396 : decode cL_law 396 = .ok (.iload 6, 2) := by decide +kernel
theorem dL_law_398 : decode cL_law 398 = .ok (.i2l, 1) := by decide +kernel
theorem dL_law_399 : decode cL_law 399 = .ok (.lcmp, 1) := by decide +kernel
theorem dL_law_400 : decode cL_law 400 = .ok (.ifCond .eq 5, 3) := by decide +kernel
theorem dL_law_403 : decode cL_law 403 = .ok (.iconst 0, 1) := by decide +kernel
theorem dL_law_404 : decode cL_law 404 = .ok (.ireturn, 1) := by decide +kernel
theorem dL_law_405 : decode cL_law 405 = .ok (.goto 951, 3) := by decide +kernel
theorem dL_law_408 : decode cL_law 408 = .ok (.aload_n 1, 1) := by decide +kernel
theorem dL_law_409 : decode cL_law 409 = .ok (.aload_n 0, 1) := by decide +kernel
theorem dL_law_410 : decode cL_law 410 = .ok (.iload 4, 2) := by decide +kernel
theorem dL_law_412 : decode cL_law 412 = .ok (.iconst 1, 1) := by decide +kernel
theorem dL_law_413 : decode cL_law 413 = .ok (.iadd, 1) := by decide +kernel
theorem dL_law_414 : decode cL_law 414 = .ok (.iaload, 1) := by decide +kernel
theorem dL_law_415 : decode cL_law 415 = .ok (.aload_n 0, 1) := by decide +kernel
theorem dL_law_416 : decode cL_law 416 = .ok (.iload 4, 2) := by decide +kernel
theorem dL_law_418 : decode cL_law 418 = .ok (.iconst 2, 1) := by decide +kernel
theorem dL_law_419 : decode cL_law 419 = .ok (.iadd, 1) := by decide +kernel
theorem dL_law_420 : decode cL_law 420 = .ok (.iaload, 1) := by decide +kernel
theorem dL_law_421 : decode cL_law 421 = .ok (.aload_n 3, 1) := by decide +kernel
theorem dL_law_422 : decode cL_law 422 = .ok (.invokestatic 97, 3) := by decide +kernel
theorem dL_law_425 : decode cL_law 425 = .ok (.istore 5, 2) := by decide +kernel
theorem dL_law_427 : decode cL_law 427 = .ok (.aload_n 2, 1) := by decide +kernel
theorem dL_law_428 : decode cL_law 428 = .ok (.aload_n 0, 1) := by decide +kernel
theorem dL_law_429 : decode cL_law 429 = .ok (.iload 4, 2) := by decide +kernel
theorem dL_law_431 : decode cL_law 431 = .ok (.iconst 1, 1) := by decide +kernel
theorem dL_law_432 : decode cL_law 432 = .ok (.iadd, 1) := by decide +kernel
theorem dL_law_433 : decode cL_law 433 = .ok (.iaload, 1) := by decide +kernel
theorem dL_law_434 : decode cL_law 434 = .ok (.aload_n 0, 1) := by decide +kernel
theorem dL_law_435 : decode cL_law 435 = .ok (.iload 4, 2) := by decide +kernel
theorem dL_law_437 : decode cL_law 437 = .ok (.iconst 2, 1) := by decide +kernel
theorem dL_law_438 : decode cL_law 438 = .ok (.iadd, 1) := by decide +kernel
theorem dL_law_439 : decode cL_law 439 = .ok (.iaload, 1) := by decide +kernel
theorem dL_law_440 : decode cL_law 440 = .ok (.invokevirtual 99, 3) := by decide +kernel
theorem dL_law_443 : decode cL_law 443 = .ok (.istore 6, 2) := by decide +kernel
theorem dL_law_445 : decode cL_law 445 = .ok (.aload_n 2, 1) := by decide +kernel
theorem dL_law_446 : decode cL_law 446 = .ok (.invokevirtual 83, 3) := by decide +kernel
theorem dL_law_449 : decode cL_law 449 = .ok (.iload 5, 2) := by decide +kernel
theorem dL_law_451 : decode cL_law 451 = .ok (.if_icmp .eq 5, 3) := by decide +kernel
theorem dL_law_454 : decode cL_law 454 = .ok (.iconst 0, 1) := by decide +kernel
theorem dL_law_455 : decode cL_law 455 = .ok (.ireturn, 1) := by decide +kernel
theorem dL_law_456 : decode cL_law 456 = .ok (.iload 5, 2) := by decide +kernel
theorem dL_law_458 : decode cL_law 458 = .ok (.ifCond .ne 15, 3) := by decide +kernel
theorem dL_law_461 : decode cL_law 461 = .ok (.aload_n 3, 1) := by decide +kernel
theorem dL_law_462 : decode cL_law 462 = .ok (.iconst 0, 1) := by decide +kernel
theorem dL_law_463 : decode cL_law 463 = .ok (.laload, 1) := by decide +kernel
theorem dL_law_464 : decode cL_law 464 = .ok (.iload 6, 2) := by decide +kernel
theorem dL_law_466 : decode cL_law 466 = .ok (.i2l, 1) := by decide +kernel
theorem dL_law_467 : decode cL_law 467 = .ok (.lcmp, 1) := by decide +kernel
theorem dL_law_468 : decode cL_law 468 = .ok (.ifCond .eq 5, 3) := by decide +kernel
theorem dL_law_471 : decode cL_law 471 = .ok (.iconst 0, 1) := by decide +kernel
theorem dL_law_472 : decode cL_law 472 = .ok (.ireturn, 1) := by decide +kernel
theorem dL_law_473 : decode cL_law 473 = .ok (.goto 883, 3) := by decide +kernel
theorem dL_law_476 : decode cL_law 476 = .ok (.aload_n 1, 1) := by decide +kernel
theorem dL_law_477 : decode cL_law 477 = .ok (.aload_n 0, 1) := by decide +kernel
theorem dL_law_478 : decode cL_law 478 = .ok (.iload 4, 2) := by decide +kernel
theorem dL_law_480 : decode cL_law 480 = .ok (.iconst 1, 1) := by decide +kernel
theorem dL_law_481 : decode cL_law 481 = .ok (.iadd, 1) := by decide +kernel
theorem dL_law_482 : decode cL_law 482 = .ok (.iaload, 1) := by decide +kernel
theorem dL_law_483 : decode cL_law 483 = .ok (.aload_n 0, 1) := by decide +kernel
theorem dL_law_484 : decode cL_law 484 = .ok (.iload 4, 2) := by decide +kernel
theorem dL_law_486 : decode cL_law 486 = .ok (.iconst 2, 1) := by decide +kernel
theorem dL_law_487 : decode cL_law 487 = .ok (.iadd, 1) := by decide +kernel
theorem dL_law_488 : decode cL_law 488 = .ok (.iaload, 1) := by decide +kernel
theorem dL_law_489 : decode cL_law 489 = .ok (.aload_n 0, 1) := by decide +kernel
theorem dL_law_490 : decode cL_law 490 = .ok (.iload 4, 2) := by decide +kernel
theorem dL_law_492 : decode cL_law 492 = .ok (.iconst 3, 1) := by decide +kernel
theorem dL_law_493 : decode cL_law 493 = .ok (.iadd, 1) := by decide +kernel
theorem dL_law_494 : decode cL_law 494 = .ok (.iaload, 1) := by decide +kernel
theorem dL_law_495 : decode cL_law 495 = .ok (.aload_n 3, 1) := by decide +kernel
theorem dL_law_496 : decode cL_law 496 = .ok (.invokestatic 100, 3) := by decide +kernel
theorem dL_law_499 : decode cL_law 499 = .ok (.istore 5, 2) := by decide +kernel
theorem dL_law_501 : decode cL_law 501 = .ok (.aload_n 2, 1) := by decide +kernel
theorem dL_law_502 : decode cL_law 502 = .ok (.aload_n 0, 1) := by decide +kernel
theorem dL_law_503 : decode cL_law 503 = .ok (.iload 4, 2) := by decide +kernel
theorem dL_law_505 : decode cL_law 505 = .ok (.iconst 1, 1) := by decide +kernel
theorem dL_law_506 : decode cL_law 506 = .ok (.iadd, 1) := by decide +kernel
theorem dL_law_507 : decode cL_law 507 = .ok (.iaload, 1) := by decide +kernel
theorem dL_law_508 : decode cL_law 508 = .ok (.aload_n 0, 1) := by decide +kernel
theorem dL_law_509 : decode cL_law 509 = .ok (.iload 4, 2) := by decide +kernel
theorem dL_law_511 : decode cL_law 511 = .ok (.iconst 2, 1) := by decide +kernel
theorem dL_law_512 : decode cL_law 512 = .ok (.iadd, 1) := by decide +kernel
theorem dL_law_513 : decode cL_law 513 = .ok (.iaload, 1) := by decide +kernel
theorem dL_law_514 : decode cL_law 514 = .ok (.aload_n 0, 1) := by decide +kernel
theorem dL_law_515 : decode cL_law 515 = .ok (.iload 4, 2) := by decide +kernel
theorem dL_law_517 : decode cL_law 517 = .ok (.iconst 3, 1) := by decide +kernel
theorem dL_law_518 : decode cL_law 518 = .ok (.iadd, 1) := by decide +kernel
theorem dL_law_519 : decode cL_law 519 = .ok (.iaload, 1) := by decide +kernel
theorem dL_law_520 : decode cL_law 520 = .ok (.invokevirtual 102, 3) := by decide +kernel
theorem dL_law_523 : decode cL_law 523 = .ok (.istore 6, 2) := by decide +kernel
theorem dL_law_525 : decode cL_law 525 = .ok (.aload_n 2, 1) := by decide +kernel
theorem dL_law_526 : decode cL_law 526 = .ok (.invokevirtual 83, 3) := by decide +kernel
theorem dL_law_529 : decode cL_law 529 = .ok (.iload 5, 2) := by decide +kernel
theorem dL_law_531 : decode cL_law 531 = .ok (.if_icmp .eq 5, 3) := by decide +kernel
theorem dL_law_534 : decode cL_law 534 = .ok (.iconst 0, 1) := by decide +kernel
theorem dL_law_535 : decode cL_law 535 = .ok (.ireturn, 1) := by decide +kernel
theorem dL_law_536 : decode cL_law 536 = .ok (.iload 5, 2) := by decide +kernel
theorem dL_law_538 : decode cL_law 538 = .ok (.ifCond .ne 15, 3) := by decide +kernel
theorem dL_law_541 : decode cL_law 541 = .ok (.aload_n 3, 1) := by decide +kernel
theorem dL_law_542 : decode cL_law 542 = .ok (.iconst 0, 1) := by decide +kernel
theorem dL_law_543 : decode cL_law 543 = .ok (.laload, 1) := by decide +kernel
theorem dL_law_544 : decode cL_law 544 = .ok (.iload 6, 2) := by decide +kernel
theorem dL_law_546 : decode cL_law 546 = .ok (.i2l, 1) := by decide +kernel
theorem dL_law_547 : decode cL_law 547 = .ok (.lcmp, 1) := by decide +kernel
theorem dL_law_548 : decode cL_law 548 = .ok (.ifCond .eq 5, 3) := by decide +kernel
theorem dL_law_551 : decode cL_law 551 = .ok (.iconst 0, 1) := by decide +kernel
theorem dL_law_552 : decode cL_law 552 = .ok (.ireturn, 1) := by decide +kernel
theorem dL_law_553 : decode cL_law 553 = .ok (.goto 803, 3) := by decide +kernel
theorem dL_law_556 : decode cL_law 556 = .ok (.aload_n 1, 1) := by decide +kernel
theorem dL_law_557 : decode cL_law 557 = .ok (.aload_n 0, 1) := by decide +kernel
theorem dL_law_558 : decode cL_law 558 = .ok (.iload 4, 2) := by decide +kernel
theorem dL_law_560 : decode cL_law 560 = .ok (.iconst 1, 1) := by decide +kernel
theorem dL_law_561 : decode cL_law 561 = .ok (.iadd, 1) := by decide +kernel
theorem dL_law_562 : decode cL_law 562 = .ok (.iaload, 1) := by decide +kernel
theorem dL_law_563 : decode cL_law 563 = .ok (.aload_n 0, 1) := by decide +kernel
theorem dL_law_564 : decode cL_law 564 = .ok (.iload 4, 2) := by decide +kernel
theorem dL_law_566 : decode cL_law 566 = .ok (.iconst 2, 1) := by decide +kernel
theorem dL_law_567 : decode cL_law 567 = .ok (.iadd, 1) := by decide +kernel
theorem dL_law_568 : decode cL_law 568 = .ok (.iaload, 1) := by decide +kernel
theorem dL_law_569 : decode cL_law 569 = .ok (.aload_n 3, 1) := by decide +kernel
theorem dL_law_570 : decode cL_law 570 = .ok (.invokestatic 103, 3) := by decide +kernel
theorem dL_law_573 : decode cL_law 573 = .ok (.istore 5, 2) := by decide +kernel
theorem dL_law_575 : decode cL_law 575 = .ok (.aload_n 2, 1) := by decide +kernel
theorem dL_law_576 : decode cL_law 576 = .ok (.aload_n 0, 1) := by decide +kernel
theorem dL_law_577 : decode cL_law 577 = .ok (.iload 4, 2) := by decide +kernel
theorem dL_law_579 : decode cL_law 579 = .ok (.iconst 1, 1) := by decide +kernel
theorem dL_law_580 : decode cL_law 580 = .ok (.iadd, 1) := by decide +kernel
theorem dL_law_581 : decode cL_law 581 = .ok (.iaload, 1) := by decide +kernel
theorem dL_law_582 : decode cL_law 582 = .ok (.aload_n 0, 1) := by decide +kernel
theorem dL_law_583 : decode cL_law 583 = .ok (.iload 4, 2) := by decide +kernel
theorem dL_law_585 : decode cL_law 585 = .ok (.iconst 2, 1) := by decide +kernel
theorem dL_law_586 : decode cL_law 586 = .ok (.iadd, 1) := by decide +kernel
theorem dL_law_587 : decode cL_law 587 = .ok (.iaload, 1) := by decide +kernel
theorem dL_law_588 : decode cL_law 588 = .ok (.invokevirtual 105, 3) := by decide +kernel
theorem dL_law_591 : decode cL_law 591 = .ok (.istore 6, 2) := by decide +kernel
theorem dL_law_593 : decode cL_law 593 = .ok (.aload_n 2, 1) := by decide +kernel
theorem dL_law_594 : decode cL_law 594 = .ok (.invokevirtual 83, 3) := by decide +kernel
theorem dL_law_597 : decode cL_law 597 = .ok (.iload 5, 2) := by decide +kernel
theorem dL_law_599 : decode cL_law 599 = .ok (.if_icmp .eq 5, 3) := by decide +kernel
theorem dL_law_602 : decode cL_law 602 = .ok (.iconst 0, 1) := by decide +kernel
theorem dL_law_603 : decode cL_law 603 = .ok (.ireturn, 1) := by decide +kernel
theorem dL_law_604 : decode cL_law 604 = .ok (.iload 5, 2) := by decide +kernel
theorem dL_law_606 : decode cL_law 606 = .ok (.ifCond .ne 15, 3) := by decide +kernel
theorem dL_law_609 : decode cL_law 609 = .ok (.aload_n 3, 1) := by decide +kernel
theorem dL_law_610 : decode cL_law 610 = .ok (.iconst 0, 1) := by decide +kernel
theorem dL_law_611 : decode cL_law 611 = .ok (.laload, 1) := by decide +kernel
theorem dL_law_612 : decode cL_law 612 = .ok (.iload 6, 2) := by decide +kernel
theorem dL_law_614 : decode cL_law 614 = .ok (.i2l, 1) := by decide +kernel
theorem dL_law_615 : decode cL_law 615 = .ok (.lcmp, 1) := by decide +kernel
theorem dL_law_616 : decode cL_law 616 = .ok (.ifCond .eq 5, 3) := by decide +kernel
theorem dL_law_619 : decode cL_law 619 = .ok (.iconst 0, 1) := by decide +kernel
theorem dL_law_620 : decode cL_law 620 = .ok (.ireturn, 1) := by decide +kernel
theorem dL_law_621 : decode cL_law 621 = .ok (.goto 735, 3) := by decide +kernel
theorem dL_law_624 : decode cL_law 624 = .ok (.aload_n 1, 1) := by decide +kernel
theorem dL_law_625 : decode cL_law 625 = .ok (.aload_n 0, 1) := by decide +kernel
theorem dL_law_626 : decode cL_law 626 = .ok (.iload 4, 2) := by decide +kernel
theorem dL_law_628 : decode cL_law 628 = .ok (.iconst 1, 1) := by decide +kernel
theorem dL_law_629 : decode cL_law 629 = .ok (.iadd, 1) := by decide +kernel
theorem dL_law_630 : decode cL_law 630 = .ok (.iaload, 1) := by decide +kernel
theorem dL_law_631 : decode cL_law 631 = .ok (.aload_n 0, 1) := by decide +kernel
theorem dL_law_632 : decode cL_law 632 = .ok (.iload 4, 2) := by decide +kernel
theorem dL_law_634 : decode cL_law 634 = .ok (.iconst 2, 1) := by decide +kernel
theorem dL_law_635 : decode cL_law 635 = .ok (.iadd, 1) := by decide +kernel
theorem dL_law_636 : decode cL_law 636 = .ok (.iaload, 1) := by decide +kernel
theorem dL_law_637 : decode cL_law 637 = .ok (.aload_n 3, 1) := by decide +kernel
theorem dL_law_638 : decode cL_law 638 = .ok (.invokestatic 106, 3) := by decide +kernel
theorem dL_law_641 : decode cL_law 641 = .ok (.istore 5, 2) := by decide +kernel
theorem dL_law_643 : decode cL_law 643 = .ok (.aload_n 2, 1) := by decide +kernel
theorem dL_law_644 : decode cL_law 644 = .ok (.aload_n 0, 1) := by decide +kernel
theorem dL_law_645 : decode cL_law 645 = .ok (.iload 4, 2) := by decide +kernel
theorem dL_law_647 : decode cL_law 647 = .ok (.iconst 1, 1) := by decide +kernel
theorem dL_law_648 : decode cL_law 648 = .ok (.iadd, 1) := by decide +kernel
theorem dL_law_649 : decode cL_law 649 = .ok (.iaload, 1) := by decide +kernel
theorem dL_law_650 : decode cL_law 650 = .ok (.aload_n 0, 1) := by decide +kernel
theorem dL_law_651 : decode cL_law 651 = .ok (.iload 4, 2) := by decide +kernel
theorem dL_law_653 : decode cL_law 653 = .ok (.iconst 2, 1) := by decide +kernel
theorem dL_law_654 : decode cL_law 654 = .ok (.iadd, 1) := by decide +kernel
theorem dL_law_655 : decode cL_law 655 = .ok (.iaload, 1) := by decide +kernel
theorem dL_law_656 : decode cL_law 656 = .ok (.invokevirtual 108, 3) := by decide +kernel
theorem dL_law_659 : decode cL_law 659 = .ok (.istore 6, 2) := by decide +kernel
theorem dL_law_661 : decode cL_law 661 = .ok (.aload_n 2, 1) := by decide +kernel
theorem dL_law_662 : decode cL_law 662 = .ok (.invokevirtual 83, 3) := by decide +kernel
theorem dL_law_665 : decode cL_law 665 = .ok (.iload 5, 2) := by decide +kernel
theorem dL_law_667 : decode cL_law 667 = .ok (.if_icmp .eq 5, 3) := by decide +kernel
theorem dL_law_670 : decode cL_law 670 = .ok (.iconst 0, 1) := by decide +kernel
theorem dL_law_671 : decode cL_law 671 = .ok (.ireturn, 1) := by decide +kernel
theorem dL_law_672 : decode cL_law 672 = .ok (.iload 5, 2) := by decide +kernel
theorem dL_law_674 : decode cL_law 674 = .ok (.ifCond .ne 15, 3) := by decide +kernel
theorem dL_law_677 : decode cL_law 677 = .ok (.aload_n 3, 1) := by decide +kernel
theorem dL_law_678 : decode cL_law 678 = .ok (.iconst 0, 1) := by decide +kernel
theorem dL_law_679 : decode cL_law 679 = .ok (.laload, 1) := by decide +kernel
theorem dL_law_680 : decode cL_law 680 = .ok (.iload 6, 2) := by decide +kernel
theorem dL_law_682 : decode cL_law 682 = .ok (.i2l, 1) := by decide +kernel
theorem dL_law_683 : decode cL_law 683 = .ok (.lcmp, 1) := by decide +kernel
theorem dL_law_684 : decode cL_law 684 = .ok (.ifCond .eq 5, 3) := by decide +kernel
theorem dL_law_687 : decode cL_law 687 = .ok (.iconst 0, 1) := by decide +kernel
theorem dL_law_688 : decode cL_law 688 = .ok (.ireturn, 1) := by decide +kernel
theorem dL_law_689 : decode cL_law 689 = .ok (.goto 667, 3) := by decide +kernel
theorem dL_law_692 : decode cL_law 692 = .ok (.aload_n 1, 1) := by decide +kernel
theorem dL_law_693 : decode cL_law 693 = .ok (.aload_n 0, 1) := by decide +kernel
theorem dL_law_694 : decode cL_law 694 = .ok (.iload 4, 2) := by decide +kernel
theorem dL_law_696 : decode cL_law 696 = .ok (.iconst 1, 1) := by decide +kernel
theorem dL_law_697 : decode cL_law 697 = .ok (.iadd, 1) := by decide +kernel
theorem dL_law_698 : decode cL_law 698 = .ok (.iaload, 1) := by decide +kernel
theorem dL_law_699 : decode cL_law 699 = .ok (.aload_n 0, 1) := by decide +kernel
theorem dL_law_700 : decode cL_law 700 = .ok (.iload 4, 2) := by decide +kernel
theorem dL_law_702 : decode cL_law 702 = .ok (.iconst 2, 1) := by decide +kernel
theorem dL_law_703 : decode cL_law 703 = .ok (.iadd, 1) := by decide +kernel
theorem dL_law_704 : decode cL_law 704 = .ok (.iaload, 1) := by decide +kernel
theorem dL_law_705 : decode cL_law 705 = .ok (.aload_n 3, 1) := by decide +kernel
theorem dL_law_706 : decode cL_law 706 = .ok (.invokestatic 109, 3) := by decide +kernel
theorem dL_law_709 : decode cL_law 709 = .ok (.istore 5, 2) := by decide +kernel
theorem dL_law_711 : decode cL_law 711 = .ok (.aload_n 2, 1) := by decide +kernel
theorem dL_law_712 : decode cL_law 712 = .ok (.aload_n 0, 1) := by decide +kernel
theorem dL_law_713 : decode cL_law 713 = .ok (.iload 4, 2) := by decide +kernel
theorem dL_law_715 : decode cL_law 715 = .ok (.iconst 1, 1) := by decide +kernel
theorem dL_law_716 : decode cL_law 716 = .ok (.iadd, 1) := by decide +kernel
theorem dL_law_717 : decode cL_law 717 = .ok (.iaload, 1) := by decide +kernel
theorem dL_law_718 : decode cL_law 718 = .ok (.aload_n 0, 1) := by decide +kernel
theorem dL_law_719 : decode cL_law 719 = .ok (.iload 4, 2) := by decide +kernel
theorem dL_law_721 : decode cL_law 721 = .ok (.iconst 2, 1) := by decide +kernel
theorem dL_law_722 : decode cL_law 722 = .ok (.iadd, 1) := by decide +kernel
theorem dL_law_723 : decode cL_law 723 = .ok (.iaload, 1) := by decide +kernel
theorem dL_law_724 : decode cL_law 724 = .ok (.invokevirtual 111, 3) := by decide +kernel
theorem dL_law_727 : decode cL_law 727 = .ok (.istore 6, 2) := by decide +kernel
theorem dL_law_729 : decode cL_law 729 = .ok (.aload_n 2, 1) := by decide +kernel
theorem dL_law_730 : decode cL_law 730 = .ok (.invokevirtual 83, 3) := by decide +kernel
theorem dL_law_733 : decode cL_law 733 = .ok (.iload 5, 2) := by decide +kernel
theorem dL_law_735 : decode cL_law 735 = .ok (.if_icmp .eq 5, 3) := by decide +kernel
theorem dL_law_738 : decode cL_law 738 = .ok (.iconst 0, 1) := by decide +kernel
theorem dL_law_739 : decode cL_law 739 = .ok (.ireturn, 1) := by decide +kernel
theorem dL_law_740 : decode cL_law 740 = .ok (.iload 5, 2) := by decide +kernel
theorem dL_law_742 : decode cL_law 742 = .ok (.ifCond .ne 15, 3) := by decide +kernel
theorem dL_law_745 : decode cL_law 745 = .ok (.aload_n 3, 1) := by decide +kernel
theorem dL_law_746 : decode cL_law 746 = .ok (.iconst 0, 1) := by decide +kernel
theorem dL_law_747 : decode cL_law 747 = .ok (.laload, 1) := by decide +kernel
theorem dL_law_748 : decode cL_law 748 = .ok (.iload 6, 2) := by decide +kernel
theorem dL_law_750 : decode cL_law 750 = .ok (.i2l, 1) := by decide +kernel
theorem dL_law_751 : decode cL_law 751 = .ok (.lcmp, 1) := by decide +kernel
theorem dL_law_752 : decode cL_law 752 = .ok (.ifCond .eq 5, 3) := by decide +kernel
theorem dL_law_755 : decode cL_law 755 = .ok (.iconst 0, 1) := by decide +kernel
theorem dL_law_756 : decode cL_law 756 = .ok (.ireturn, 1) := by decide +kernel
theorem dL_law_757 : decode cL_law 757 = .ok (.goto 599, 3) := by decide +kernel
theorem dL_law_760 : decode cL_law 760 = .ok (.aload_n 1, 1) := by decide +kernel
theorem dL_law_761 : decode cL_law 761 = .ok (.aload_n 0, 1) := by decide +kernel
theorem dL_law_762 : decode cL_law 762 = .ok (.iload 4, 2) := by decide +kernel
theorem dL_law_764 : decode cL_law 764 = .ok (.iconst 1, 1) := by decide +kernel
theorem dL_law_765 : decode cL_law 765 = .ok (.iadd, 1) := by decide +kernel
theorem dL_law_766 : decode cL_law 766 = .ok (.iaload, 1) := by decide +kernel
theorem dL_law_767 : decode cL_law 767 = .ok (.aload_n 0, 1) := by decide +kernel
theorem dL_law_768 : decode cL_law 768 = .ok (.iload 4, 2) := by decide +kernel
theorem dL_law_770 : decode cL_law 770 = .ok (.iconst 2, 1) := by decide +kernel
theorem dL_law_771 : decode cL_law 771 = .ok (.iadd, 1) := by decide +kernel
theorem dL_law_772 : decode cL_law 772 = .ok (.iaload, 1) := by decide +kernel
theorem dL_law_773 : decode cL_law 773 = .ok (.aload_n 3, 1) := by decide +kernel
theorem dL_law_774 : decode cL_law 774 = .ok (.invokestatic 112, 3) := by decide +kernel
theorem dL_law_777 : decode cL_law 777 = .ok (.istore 5, 2) := by decide +kernel
theorem dL_law_779 : decode cL_law 779 = .ok (.aload_n 2, 1) := by decide +kernel
theorem dL_law_780 : decode cL_law 780 = .ok (.aload_n 0, 1) := by decide +kernel
theorem dL_law_781 : decode cL_law 781 = .ok (.iload 4, 2) := by decide +kernel
theorem dL_law_783 : decode cL_law 783 = .ok (.iconst 1, 1) := by decide +kernel
theorem dL_law_784 : decode cL_law 784 = .ok (.iadd, 1) := by decide +kernel
theorem dL_law_785 : decode cL_law 785 = .ok (.iaload, 1) := by decide +kernel
theorem dL_law_786 : decode cL_law 786 = .ok (.aload_n 0, 1) := by decide +kernel
theorem dL_law_787 : decode cL_law 787 = .ok (.iload 4, 2) := by decide +kernel
theorem dL_law_789 : decode cL_law 789 = .ok (.iconst 2, 1) := by decide +kernel
theorem dL_law_790 : decode cL_law 790 = .ok (.iadd, 1) := by decide +kernel
theorem dL_law_791 : decode cL_law 791 = .ok (.iaload, 1) := by decide +kernel
theorem dL_law_792 : decode cL_law 792 = .ok (.invokevirtual 114, 3) := by decide +kernel
theorem dL_law_795 : decode cL_law 795 = .ok (.istore 6, 2) := by decide +kernel
theorem dL_law_797 : decode cL_law 797 = .ok (.aload_n 2, 1) := by decide +kernel
theorem dL_law_798 : decode cL_law 798 = .ok (.invokevirtual 83, 3) := by decide +kernel
theorem dL_law_801 : decode cL_law 801 = .ok (.iload 5, 2) := by decide +kernel
theorem dL_law_803 : decode cL_law 803 = .ok (.if_icmp .eq 5, 3) := by decide +kernel
theorem dL_law_806 : decode cL_law 806 = .ok (.iconst 0, 1) := by decide +kernel
theorem dL_law_807 : decode cL_law 807 = .ok (.ireturn, 1) := by decide +kernel
theorem dL_law_808 : decode cL_law 808 = .ok (.iload 5, 2) := by decide +kernel
theorem dL_law_810 : decode cL_law 810 = .ok (.ifCond .ne 15, 3) := by decide +kernel
theorem dL_law_813 : decode cL_law 813 = .ok (.aload_n 3, 1) := by decide +kernel
theorem dL_law_814 : decode cL_law 814 = .ok (.iconst 0, 1) := by decide +kernel
theorem dL_law_815 : decode cL_law 815 = .ok (.laload, 1) := by decide +kernel
theorem dL_law_816 : decode cL_law 816 = .ok (.iload 6, 2) := by decide +kernel
theorem dL_law_818 : decode cL_law 818 = .ok (.i2l, 1) := by decide +kernel
theorem dL_law_819 : decode cL_law 819 = .ok (.lcmp, 1) := by decide +kernel
theorem dL_law_820 : decode cL_law 820 = .ok (.ifCond .eq 5, 3) := by decide +kernel
theorem dL_law_823 : decode cL_law 823 = .ok (.iconst 0, 1) := by decide +kernel
theorem dL_law_824 : decode cL_law 824 = .ok (.ireturn, 1) := by decide +kernel
theorem dL_law_825 : decode cL_law 825 = .ok (.goto 531, 3) := by decide +kernel
theorem dL_law_828 : decode cL_law 828 = .ok (.aload_n 1, 1) := by decide +kernel
theorem dL_law_829 : decode cL_law 829 = .ok (.aload_n 0, 1) := by decide +kernel
theorem dL_law_830 : decode cL_law 830 = .ok (.iload 4, 2) := by decide +kernel
theorem dL_law_832 : decode cL_law 832 = .ok (.iconst 1, 1) := by decide +kernel
theorem dL_law_833 : decode cL_law 833 = .ok (.iadd, 1) := by decide +kernel
theorem dL_law_834 : decode cL_law 834 = .ok (.iaload, 1) := by decide +kernel
theorem dL_law_835 : decode cL_law 835 = .ok (.aload_n 0, 1) := by decide +kernel
theorem dL_law_836 : decode cL_law 836 = .ok (.iload 4, 2) := by decide +kernel
theorem dL_law_838 : decode cL_law 838 = .ok (.iconst 2, 1) := by decide +kernel
theorem dL_law_839 : decode cL_law 839 = .ok (.iadd, 1) := by decide +kernel
theorem dL_law_840 : decode cL_law 840 = .ok (.iaload, 1) := by decide +kernel
theorem dL_law_841 : decode cL_law 841 = .ok (.aload_n 3, 1) := by decide +kernel
theorem dL_law_842 : decode cL_law 842 = .ok (.invokestatic 115, 3) := by decide +kernel
theorem dL_law_845 : decode cL_law 845 = .ok (.istore 5, 2) := by decide +kernel
theorem dL_law_847 : decode cL_law 847 = .ok (.aload_n 2, 1) := by decide +kernel
theorem dL_law_848 : decode cL_law 848 = .ok (.aload_n 0, 1) := by decide +kernel
theorem dL_law_849 : decode cL_law 849 = .ok (.iload 4, 2) := by decide +kernel
theorem dL_law_851 : decode cL_law 851 = .ok (.iconst 1, 1) := by decide +kernel
theorem dL_law_852 : decode cL_law 852 = .ok (.iadd, 1) := by decide +kernel
theorem dL_law_853 : decode cL_law 853 = .ok (.iaload, 1) := by decide +kernel
theorem dL_law_854 : decode cL_law 854 = .ok (.aload_n 0, 1) := by decide +kernel
theorem dL_law_855 : decode cL_law 855 = .ok (.iload 4, 2) := by decide +kernel
theorem dL_law_857 : decode cL_law 857 = .ok (.iconst 2, 1) := by decide +kernel
theorem dL_law_858 : decode cL_law 858 = .ok (.iadd, 1) := by decide +kernel
theorem dL_law_859 : decode cL_law 859 = .ok (.iaload, 1) := by decide +kernel
theorem dL_law_860 : decode cL_law 860 = .ok (.invokevirtual 117, 3) := by decide +kernel
theorem dL_law_863 : decode cL_law 863 = .ok (.istore 6, 2) := by decide +kernel
theorem dL_law_865 : decode cL_law 865 = .ok (.aload_n 2, 1) := by decide +kernel
theorem dL_law_866 : decode cL_law 866 = .ok (.invokevirtual 83, 3) := by decide +kernel
theorem dL_law_869 : decode cL_law 869 = .ok (.iload 5, 2) := by decide +kernel
theorem dL_law_871 : decode cL_law 871 = .ok (.if_icmp .eq 5, 3) := by decide +kernel
theorem dL_law_874 : decode cL_law 874 = .ok (.iconst 0, 1) := by decide +kernel
theorem dL_law_875 : decode cL_law 875 = .ok (.ireturn, 1) := by decide +kernel
theorem dL_law_876 : decode cL_law 876 = .ok (.iload 5, 2) := by decide +kernel
theorem dL_law_878 : decode cL_law 878 = .ok (.ifCond .ne 15, 3) := by decide +kernel
theorem dL_law_881 : decode cL_law 881 = .ok (.aload_n 3, 1) := by decide +kernel
theorem dL_law_882 : decode cL_law 882 = .ok (.iconst 0, 1) := by decide +kernel
theorem dL_law_883 : decode cL_law 883 = .ok (.laload, 1) := by decide +kernel
theorem dL_law_884 : decode cL_law 884 = .ok (.iload 6, 2) := by decide +kernel
theorem dL_law_886 : decode cL_law 886 = .ok (.i2l, 1) := by decide +kernel
theorem dL_law_887 : decode cL_law 887 = .ok (.lcmp, 1) := by decide +kernel
theorem dL_law_888 : decode cL_law 888 = .ok (.ifCond .eq 5, 3) := by decide +kernel
theorem dL_law_891 : decode cL_law 891 = .ok (.iconst 0, 1) := by decide +kernel
theorem dL_law_892 : decode cL_law 892 = .ok (.ireturn, 1) := by decide +kernel
theorem dL_law_893 : decode cL_law 893 = .ok (.goto 463, 3) := by decide +kernel
theorem dL_law_896 : decode cL_law 896 = .ok (.aload_n 1, 1) := by decide +kernel
theorem dL_law_897 : decode cL_law 897 = .ok (.aload_n 0, 1) := by decide +kernel
theorem dL_law_898 : decode cL_law 898 = .ok (.iload 4, 2) := by decide +kernel
theorem dL_law_900 : decode cL_law 900 = .ok (.iconst 1, 1) := by decide +kernel
theorem dL_law_901 : decode cL_law 901 = .ok (.iadd, 1) := by decide +kernel
theorem dL_law_902 : decode cL_law 902 = .ok (.iaload, 1) := by decide +kernel
theorem dL_law_903 : decode cL_law 903 = .ok (.aload_n 3, 1) := by decide +kernel
theorem dL_law_904 : decode cL_law 904 = .ok (.invokestatic 118, 3) := by decide +kernel
theorem dL_law_907 : decode cL_law 907 = .ok (.istore 5, 2) := by decide +kernel
theorem dL_law_909 : decode cL_law 909 = .ok (.aload_n 2, 1) := by decide +kernel
theorem dL_law_910 : decode cL_law 910 = .ok (.aload_n 0, 1) := by decide +kernel
theorem dL_law_911 : decode cL_law 911 = .ok (.iload 4, 2) := by decide +kernel
theorem dL_law_913 : decode cL_law 913 = .ok (.iconst 1, 1) := by decide +kernel
theorem dL_law_914 : decode cL_law 914 = .ok (.iadd, 1) := by decide +kernel
theorem dL_law_915 : decode cL_law 915 = .ok (.iaload, 1) := by decide +kernel
theorem dL_law_916 : decode cL_law 916 = .ok (.invokevirtual 120, 3) := by decide +kernel
theorem dL_law_919 : decode cL_law 919 = .ok (.istore 6, 2) := by decide +kernel
theorem dL_law_921 : decode cL_law 921 = .ok (.aload_n 2, 1) := by decide +kernel
theorem dL_law_922 : decode cL_law 922 = .ok (.invokevirtual 83, 3) := by decide +kernel
theorem dL_law_925 : decode cL_law 925 = .ok (.iload 5, 2) := by decide +kernel
theorem dL_law_927 : decode cL_law 927 = .ok (.if_icmp .eq 5, 3) := by decide +kernel
theorem dL_law_930 : decode cL_law 930 = .ok (.iconst 0, 1) := by decide +kernel
theorem dL_law_931 : decode cL_law 931 = .ok (.ireturn, 1) := by decide +kernel
theorem dL_law_932 : decode cL_law 932 = .ok (.iload 5, 2) := by decide +kernel
theorem dL_law_934 : decode cL_law 934 = .ok (.ifCond .ne 15, 3) := by decide +kernel
theorem dL_law_937 : decode cL_law 937 = .ok (.aload_n 3, 1) := by decide +kernel
theorem dL_law_938 : decode cL_law 938 = .ok (.iconst 0, 1) := by decide +kernel
theorem dL_law_939 : decode cL_law 939 = .ok (.laload, 1) := by decide +kernel
theorem dL_law_940 : decode cL_law 940 = .ok (.iload 6, 2) := by decide +kernel
theorem dL_law_942 : decode cL_law 942 = .ok (.i2l, 1) := by decide +kernel
theorem dL_law_943 : decode cL_law 943 = .ok (.lcmp, 1) := by decide +kernel
theorem dL_law_944 : decode cL_law 944 = .ok (.ifCond .eq 5, 3) := by decide +kernel
theorem dL_law_947 : decode cL_law 947 = .ok (.iconst 0, 1) := by decide +kernel
theorem dL_law_948 : decode cL_law 948 = .ok (.ireturn, 1) := by decide +kernel
theorem dL_law_949 : decode cL_law 949 = .ok (.goto 407, 3) := by decide +kernel
theorem dL_law_952 : decode cL_law 952 = .ok (.aload_n 1, 1) := by decide +kernel
theorem dL_law_953 : decode cL_law 953 = .ok (.aload_n 0, 1) := by decide +kernel
theorem dL_law_954 : decode cL_law 954 = .ok (.iload 4, 2) := by decide +kernel
theorem dL_law_956 : decode cL_law 956 = .ok (.iconst 1, 1) := by decide +kernel
theorem dL_law_957 : decode cL_law 957 = .ok (.iadd, 1) := by decide +kernel
theorem dL_law_958 : decode cL_law 958 = .ok (.iaload, 1) := by decide +kernel
theorem dL_law_959 : decode cL_law 959 = .ok (.aload_n 3, 1) := by decide +kernel
theorem dL_law_960 : decode cL_law 960 = .ok (.invokestatic 121, 3) := by decide +kernel
theorem dL_law_963 : decode cL_law 963 = .ok (.istore 5, 2) := by decide +kernel
theorem dL_law_965 : decode cL_law 965 = .ok (.aload_n 2, 1) := by decide +kernel
theorem dL_law_966 : decode cL_law 966 = .ok (.aload_n 0, 1) := by decide +kernel
theorem dL_law_967 : decode cL_law 967 = .ok (.iload 4, 2) := by decide +kernel
theorem dL_law_969 : decode cL_law 969 = .ok (.iconst 1, 1) := by decide +kernel
theorem dL_law_970 : decode cL_law 970 = .ok (.iadd, 1) := by decide +kernel
theorem dL_law_971 : decode cL_law 971 = .ok (.iaload, 1) := by decide +kernel
theorem dL_law_972 : decode cL_law 972 = .ok (.invokevirtual 123, 3) := by decide +kernel
theorem dL_law_975 : decode cL_law 975 = .ok (.istore 6, 2) := by decide +kernel
theorem dL_law_977 : decode cL_law 977 = .ok (.aload_n 2, 1) := by decide +kernel
theorem dL_law_978 : decode cL_law 978 = .ok (.invokevirtual 83, 3) := by decide +kernel
theorem dL_law_981 : decode cL_law 981 = .ok (.iload 5, 2) := by decide +kernel
theorem dL_law_983 : decode cL_law 983 = .ok (.if_icmp .eq 5, 3) := by decide +kernel
theorem dL_law_986 : decode cL_law 986 = .ok (.iconst 0, 1) := by decide +kernel
theorem dL_law_987 : decode cL_law 987 = .ok (.ireturn, 1) := by decide +kernel
theorem dL_law_988 : decode cL_law 988 = .ok (.iload 5, 2) := by decide +kernel
theorem dL_law_990 : decode cL_law 990 = .ok (.ifCond .ne 15, 3) := by decide +kernel
theorem dL_law_993 : decode cL_law 993 = .ok (.aload_n 3, 1) := by decide +kernel
theorem dL_law_994 : decode cL_law 994 = .ok (.iconst 0, 1) := by decide +kernel
theorem dL_law_995 : decode cL_law 995 = .ok (.laload, 1) := by decide +kernel
theorem dL_law_996 : decode cL_law 996 = .ok (.iload 6, 2) := by decide +kernel
theorem dL_law_998 : decode cL_law 998 = .ok (.i2l, 1) := by decide +kernel
theorem dL_law_999 : decode cL_law 999 = .ok (.lcmp, 1) := by decide +kernel
theorem dL_law_1000 : decode cL_law 1000 = .ok (.ifCond .eq 5, 3) := by decide +kernel
theorem dL_law_1003 : decode cL_law 1003 = .ok (.iconst 0, 1) := by decide +kernel
theorem dL_law_1004 : decode cL_law 1004 = .ok (.ireturn, 1) := by decide +kernel
theorem dL_law_1005 : decode cL_law 1005 = .ok (.goto 351, 3) := by decide +kernel
theorem dL_law_1008 : decode cL_law 1008 = .ok (.aload_n 1, 1) := by decide +kernel
theorem dL_law_1009 : decode cL_law 1009 = .ok (.aload_n 0, 1) := by decide +kernel
theorem dL_law_1010 : decode cL_law 1010 = .ok (.iload 4, 2) := by decide +kernel
theorem dL_law_1012 : decode cL_law 1012 = .ok (.iconst 1, 1) := by decide +kernel
theorem dL_law_1013 : decode cL_law 1013 = .ok (.iadd, 1) := by decide +kernel
theorem dL_law_1014 : decode cL_law 1014 = .ok (.iaload, 1) := by decide +kernel
theorem dL_law_1015 : decode cL_law 1015 = .ok (.aload_n 3, 1) := by decide +kernel
theorem dL_law_1016 : decode cL_law 1016 = .ok (.invokestatic 124, 3) := by decide +kernel
theorem dL_law_1019 : decode cL_law 1019 = .ok (.istore 5, 2) := by decide +kernel
theorem dL_law_1021 : decode cL_law 1021 = .ok (.aload_n 2, 1) := by decide +kernel
theorem dL_law_1022 : decode cL_law 1022 = .ok (.aload_n 0, 1) := by decide +kernel
theorem dL_law_1023 : decode cL_law 1023 = .ok (.iload 4, 2) := by decide +kernel
theorem dL_law_1025 : decode cL_law 1025 = .ok (.iconst 1, 1) := by decide +kernel
theorem dL_law_1026 : decode cL_law 1026 = .ok (.iadd, 1) := by decide +kernel
theorem dL_law_1027 : decode cL_law 1027 = .ok (.iaload, 1) := by decide +kernel
theorem dL_law_1028 : decode cL_law 1028 = .ok (.invokevirtual 126, 3) := by decide +kernel
theorem dL_law_1031 : decode cL_law 1031 = .ok (.istore 6, 2) := by decide +kernel
theorem dL_law_1033 : decode cL_law 1033 = .ok (.aload_n 2, 1) := by decide +kernel
theorem dL_law_1034 : decode cL_law 1034 = .ok (.invokevirtual 83, 3) := by decide +kernel
theorem dL_law_1037 : decode cL_law 1037 = .ok (.iload 5, 2) := by decide +kernel
theorem dL_law_1039 : decode cL_law 1039 = .ok (.if_icmp .eq 5, 3) := by decide +kernel
theorem dL_law_1042 : decode cL_law 1042 = .ok (.iconst 0, 1) := by decide +kernel
theorem dL_law_1043 : decode cL_law 1043 = .ok (.ireturn, 1) := by decide +kernel
theorem dL_law_1044 : decode cL_law 1044 = .ok (.iload 5, 2) := by decide +kernel
theorem dL_law_1046 : decode cL_law 1046 = .ok (.ifCond .ne 15, 3) := by decide +kernel
theorem dL_law_1049 : decode cL_law 1049 = .ok (.aload_n 3, 1) := by decide +kernel
theorem dL_law_1050 : decode cL_law 1050 = .ok (.iconst 0, 1) := by decide +kernel
theorem dL_law_1051 : decode cL_law 1051 = .ok (.laload, 1) := by decide +kernel
theorem dL_law_1052 : decode cL_law 1052 = .ok (.iload 6, 2) := by decide +kernel
theorem dL_law_1054 : decode cL_law 1054 = .ok (.i2l, 1) := by decide +kernel
theorem dL_law_1055 : decode cL_law 1055 = .ok (.lcmp, 1) := by decide +kernel
theorem dL_law_1056 : decode cL_law 1056 = .ok (.ifCond .eq 5, 3) := by decide +kernel
theorem dL_law_1059 : decode cL_law 1059 = .ok (.iconst 0, 1) := by decide +kernel
theorem dL_law_1060 : decode cL_law 1060 = .ok (.ireturn, 1) := by decide +kernel
theorem dL_law_1061 : decode cL_law 1061 = .ok (.goto 295, 3) := by decide +kernel
theorem dL_law_1064 : decode cL_law 1064 = .ok (.aload_n 1, 1) := by decide +kernel
theorem dL_law_1065 : decode cL_law 1065 = .ok (.aload_n 3, 1) := by decide +kernel
theorem dL_law_1066 : decode cL_law 1066 = .ok (.invokestatic 127, 3) := by decide +kernel
theorem dL_law_1069 : decode cL_law 1069 = .ok (.istore 5, 2) := by decide +kernel
theorem dL_law_1071 : decode cL_law 1071 = .ok (.aload_n 2, 1) := by decide +kernel
theorem dL_law_1072 : decode cL_law 1072 = .ok (.invokevirtual 130, 3) := by decide +kernel
theorem dL_law_1075 : decode cL_law 1075 = .ok (.istore 6, 2) := by decide +kernel
theorem dL_law_1077 : decode cL_law 1077 = .ok (.aload_n 2, 1) := by decide +kernel
theorem dL_law_1078 : decode cL_law 1078 = .ok (.invokevirtual 83, 3) := by decide +kernel
theorem dL_law_1081 : decode cL_law 1081 = .ok (.iload 5, 2) := by decide +kernel
theorem dL_law_1083 : decode cL_law 1083 = .ok (.if_icmp .eq 5, 3) := by decide +kernel
theorem dL_law_1086 : decode cL_law 1086 = .ok (.iconst 0, 1) := by decide +kernel
theorem dL_law_1087 : decode cL_law 1087 = .ok (.ireturn, 1) := by decide +kernel
theorem dL_law_1088 : decode cL_law 1088 = .ok (.iload 5, 2) := by decide +kernel
theorem dL_law_1090 : decode cL_law 1090 = .ok (.ifCond .ne 15, 3) := by decide +kernel
theorem dL_law_1093 : decode cL_law 1093 = .ok (.aload_n 3, 1) := by decide +kernel
theorem dL_law_1094 : decode cL_law 1094 = .ok (.iconst 0, 1) := by decide +kernel
theorem dL_law_1095 : decode cL_law 1095 = .ok (.laload, 1) := by decide +kernel
theorem dL_law_1096 : decode cL_law 1096 = .ok (.iload 6, 2) := by decide +kernel
theorem dL_law_1098 : decode cL_law 1098 = .ok (.i2l, 1) := by decide +kernel
theorem dL_law_1099 : decode cL_law 1099 = .ok (.lcmp, 1) := by decide +kernel
theorem dL_law_1100 : decode cL_law 1100 = .ok (.ifCond .eq 5, 3) := by decide +kernel
theorem dL_law_1103 : decode cL_law 1103 = .ok (.iconst 0, 1) := by decide +kernel
theorem dL_law_1104 : decode cL_law 1104 = .ok (.ireturn, 1) := by decide +kernel
theorem dL_law_1105 : decode cL_law 1105 = .ok (.goto 251, 3) := by decide +kernel
theorem dL_law_1108 : decode cL_law 1108 = .ok (.aload_n 1, 1) := by decide +kernel
theorem dL_law_1109 : decode cL_law 1109 = .ok (.aload_n 0, 1) := by decide +kernel
theorem dL_law_1110 : decode cL_law 1110 = .ok (.iload 4, 2) := by decide +kernel
theorem dL_law_1112 : decode cL_law 1112 = .ok (.iconst 1, 1) := by decide +kernel
theorem dL_law_1113 : decode cL_law 1113 = .ok (.iadd, 1) := by decide +kernel
theorem dL_law_1114 : decode cL_law 1114 = .ok (.iaload, 1) := by decide +kernel
theorem dL_law_1115 : decode cL_law 1115 = .ok (.aload_n 3, 1) := by decide +kernel
theorem dL_law_1116 : decode cL_law 1116 = .ok (.invokestatic 131, 3) := by decide +kernel
theorem dL_law_1119 : decode cL_law 1119 = .ok (.istore 5, 2) := by decide +kernel
theorem dL_law_1121 : decode cL_law 1121 = .ok (.aload_n 2, 1) := by decide +kernel
theorem dL_law_1122 : decode cL_law 1122 = .ok (.aload_n 0, 1) := by decide +kernel
theorem dL_law_1123 : decode cL_law 1123 = .ok (.iload 4, 2) := by decide +kernel
theorem dL_law_1125 : decode cL_law 1125 = .ok (.iconst 1, 1) := by decide +kernel
theorem dL_law_1126 : decode cL_law 1126 = .ok (.iadd, 1) := by decide +kernel
theorem dL_law_1127 : decode cL_law 1127 = .ok (.iaload, 1) := by decide +kernel
theorem dL_law_1128 : decode cL_law 1128 = .ok (.invokevirtual 133, 3) := by decide +kernel
theorem dL_law_1131 : decode cL_law 1131 = .ok (.istore 6, 2) := by decide +kernel
theorem dL_law_1133 : decode cL_law 1133 = .ok (.aload_n 2, 1) := by decide +kernel
theorem dL_law_1134 : decode cL_law 1134 = .ok (.invokevirtual 83, 3) := by decide +kernel
theorem dL_law_1137 : decode cL_law 1137 = .ok (.iload 5, 2) := by decide +kernel
theorem dL_law_1139 : decode cL_law 1139 = .ok (.if_icmp .eq 5, 3) := by decide +kernel
theorem dL_law_1142 : decode cL_law 1142 = .ok (.iconst 0, 1) := by decide +kernel
theorem dL_law_1143 : decode cL_law 1143 = .ok (.ireturn, 1) := by decide +kernel
theorem dL_law_1144 : decode cL_law 1144 = .ok (.iload 5, 2) := by decide +kernel
theorem dL_law_1146 : decode cL_law 1146 = .ok (.ifCond .ne 15, 3) := by decide +kernel
theorem dL_law_1149 : decode cL_law 1149 = .ok (.aload_n 3, 1) := by decide +kernel
theorem dL_law_1150 : decode cL_law 1150 = .ok (.iconst 0, 1) := by decide +kernel
theorem dL_law_1151 : decode cL_law 1151 = .ok (.laload, 1) := by decide +kernel
theorem dL_law_1152 : decode cL_law 1152 = .ok (.iload 6, 2) := by decide +kernel
theorem dL_law_1154 : decode cL_law 1154 = .ok (.i2l, 1) := by decide +kernel
theorem dL_law_1155 : decode cL_law 1155 = .ok (.lcmp, 1) := by decide +kernel
theorem dL_law_1156 : decode cL_law 1156 = .ok (.ifCond .eq 5, 3) := by decide +kernel
theorem dL_law_1159 : decode cL_law 1159 = .ok (.iconst 0, 1) := by decide +kernel
theorem dL_law_1160 : decode cL_law 1160 = .ok (.ireturn, 1) := by decide +kernel
theorem dL_law_1161 : decode cL_law 1161 = .ok (.goto 195, 3) := by decide +kernel
theorem dL_law_1164 : decode cL_law 1164 = .ok (.aload_n 1, 1) := by decide +kernel
theorem dL_law_1165 : decode cL_law 1165 = .ok (.invokevirtual 134, 3) := by decide +kernel
theorem dL_law_1168 : decode cL_law 1168 = .ok (.aload_n 2, 1) := by decide +kernel
theorem dL_law_1169 : decode cL_law 1169 = .ok (.invokevirtual 137, 3) := by decide +kernel
theorem dL_law_1172 : decode cL_law 1172 = .ok (.if_icmp .eq 184, 3) := by decide +kernel
theorem dL_law_1175 : decode cL_law 1175 = .ok (.iconst 0, 1) := by decide +kernel
theorem dL_law_1176 : decode cL_law 1176 = .ok (.ireturn, 1) := by decide +kernel
theorem dL_law_1177 : decode cL_law 1177 = .ok (.aload_n 1, 1) := by decide +kernel
theorem dL_law_1178 : decode cL_law 1178 = .ok (.aload_n 0, 1) := by decide +kernel
theorem dL_law_1179 : decode cL_law 1179 = .ok (.iload 4, 2) := by decide +kernel
theorem dL_law_1181 : decode cL_law 1181 = .ok (.iconst 1, 1) := by decide +kernel
theorem dL_law_1182 : decode cL_law 1182 = .ok (.iadd, 1) := by decide +kernel
theorem dL_law_1183 : decode cL_law 1183 = .ok (.iaload, 1) := by decide +kernel
theorem dL_law_1184 : decode cL_law 1184 = .ok (.aload_n 3, 1) := by decide +kernel
theorem dL_law_1185 : decode cL_law 1185 = .ok (.invokestatic 138, 3) := by decide +kernel
theorem dL_law_1188 : decode cL_law 1188 = .ok (.istore 5, 2) := by decide +kernel
theorem dL_law_1190 : decode cL_law 1190 = .ok (.aload_n 2, 1) := by decide +kernel
theorem dL_law_1191 : decode cL_law 1191 = .ok (.aload_n 0, 1) := by decide +kernel
theorem dL_law_1192 : decode cL_law 1192 = .ok (.iload 4, 2) := by decide +kernel
theorem dL_law_1194 : decode cL_law 1194 = .ok (.iconst 1, 1) := by decide +kernel
theorem dL_law_1195 : decode cL_law 1195 = .ok (.iadd, 1) := by decide +kernel
theorem dL_law_1196 : decode cL_law 1196 = .ok (.iaload, 1) := by decide +kernel
theorem dL_law_1197 : decode cL_law 1197 = .ok (.invokevirtual 140, 3) := by decide +kernel
theorem dL_law_1200 : decode cL_law 1200 = .ok (.istore 6, 2) := by decide +kernel
theorem dL_law_1202 : decode cL_law 1202 = .ok (.aload_n 2, 1) := by decide +kernel
theorem dL_law_1203 : decode cL_law 1203 = .ok (.invokevirtual 83, 3) := by decide +kernel
theorem dL_law_1206 : decode cL_law 1206 = .ok (.iload 5, 2) := by decide +kernel
theorem dL_law_1208 : decode cL_law 1208 = .ok (.if_icmp .eq 5, 3) := by decide +kernel
theorem dL_law_1211 : decode cL_law 1211 = .ok (.iconst 0, 1) := by decide +kernel
theorem dL_law_1212 : decode cL_law 1212 = .ok (.ireturn, 1) := by decide +kernel
theorem dL_law_1213 : decode cL_law 1213 = .ok (.iload 5, 2) := by decide +kernel
theorem dL_law_1215 : decode cL_law 1215 = .ok (.ifCond .ne 15, 3) := by decide +kernel
theorem dL_law_1218 : decode cL_law 1218 = .ok (.aload_n 3, 1) := by decide +kernel
theorem dL_law_1219 : decode cL_law 1219 = .ok (.iconst 0, 1) := by decide +kernel
theorem dL_law_1220 : decode cL_law 1220 = .ok (.laload, 1) := by decide +kernel
theorem dL_law_1221 : decode cL_law 1221 = .ok (.iload 6, 2) := by decide +kernel
theorem dL_law_1223 : decode cL_law 1223 = .ok (.i2l, 1) := by decide +kernel
theorem dL_law_1224 : decode cL_law 1224 = .ok (.lcmp, 1) := by decide +kernel
theorem dL_law_1225 : decode cL_law 1225 = .ok (.ifCond .eq 5, 3) := by decide +kernel
theorem dL_law_1228 : decode cL_law 1228 = .ok (.iconst 0, 1) := by decide +kernel
theorem dL_law_1229 : decode cL_law 1229 = .ok (.ireturn, 1) := by decide +kernel
theorem dL_law_1230 : decode cL_law 1230 = .ok (.goto 126, 3) := by decide +kernel
theorem dL_law_1233 : decode cL_law 1233 = .ok (.aload_n 1, 1) := by decide +kernel
theorem dL_law_1234 : decode cL_law 1234 = .ok (.aload_n 0, 1) := by decide +kernel
theorem dL_law_1235 : decode cL_law 1235 = .ok (.iload 4, 2) := by decide +kernel
theorem dL_law_1237 : decode cL_law 1237 = .ok (.iconst 1, 1) := by decide +kernel
theorem dL_law_1238 : decode cL_law 1238 = .ok (.iadd, 1) := by decide +kernel
theorem dL_law_1239 : decode cL_law 1239 = .ok (.iaload, 1) := by decide +kernel
theorem dL_law_1240 : decode cL_law 1240 = .ok (.aload_n 0, 1) := by decide +kernel
theorem dL_law_1241 : decode cL_law 1241 = .ok (.iload 4, 2) := by decide +kernel
theorem dL_law_1243 : decode cL_law 1243 = .ok (.iconst 2, 1) := by decide +kernel
theorem dL_law_1244 : decode cL_law 1244 = .ok (.iadd, 1) := by decide +kernel
theorem dL_law_1245 : decode cL_law 1245 = .ok (.iaload, 1) := by decide +kernel
theorem dL_law_1246 : decode cL_law 1246 = .ok (.aload_n 3, 1) := by decide +kernel
theorem dL_law_1247 : decode cL_law 1247 = .ok (.invokestatic 141, 3) := by decide +kernel
theorem dL_law_1250 : decode cL_law 1250 = .ok (.istore 5, 2) := by decide +kernel
theorem dL_law_1252 : decode cL_law 1252 = .ok (.aload_n 2, 1) := by decide +kernel
theorem dL_law_1253 : decode cL_law 1253 = .ok (.aload_n 0, 1) := by decide +kernel
theorem dL_law_1254 : decode cL_law 1254 = .ok (.iload 4, 2) := by decide +kernel
theorem dL_law_1256 : decode cL_law 1256 = .ok (.iconst 1, 1) := by decide +kernel
theorem dL_law_1257 : decode cL_law 1257 = .ok (.iadd, 1) := by decide +kernel
theorem dL_law_1258 : decode cL_law 1258 = .ok (.iaload, 1) := by decide +kernel
theorem dL_law_1259 : decode cL_law 1259 = .ok (.aload_n 0, 1) := by decide +kernel
theorem dL_law_1260 : decode cL_law 1260 = .ok (.iload 4, 2) := by decide +kernel
theorem dL_law_1262 : decode cL_law 1262 = .ok (.iconst 2, 1) := by decide +kernel
theorem dL_law_1263 : decode cL_law 1263 = .ok (.iadd, 1) := by decide +kernel
theorem dL_law_1264 : decode cL_law 1264 = .ok (.iaload, 1) := by decide +kernel
theorem dL_law_1265 : decode cL_law 1265 = .ok (.invokevirtual 143, 3) := by decide +kernel
theorem dL_law_1268 : decode cL_law 1268 = .ok (.istore 6, 2) := by decide +kernel
theorem dL_law_1270 : decode cL_law 1270 = .ok (.aload_n 2, 1) := by decide +kernel
theorem dL_law_1271 : decode cL_law 1271 = .ok (.invokevirtual 83, 3) := by decide +kernel
theorem dL_law_1274 : decode cL_law 1274 = .ok (.iload 5, 2) := by decide +kernel
theorem dL_law_1276 : decode cL_law 1276 = .ok (.if_icmp .eq 5, 3) := by decide +kernel
theorem dL_law_1279 : decode cL_law 1279 = .ok (.iconst 0, 1) := by decide +kernel
theorem dL_law_1280 : decode cL_law 1280 = .ok (.ireturn, 1) := by decide +kernel
theorem dL_law_1281 : decode cL_law 1281 = .ok (.iload 5, 2) := by decide +kernel
theorem dL_law_1283 : decode cL_law 1283 = .ok (.ifCond .ne 15, 3) := by decide +kernel
theorem dL_law_1286 : decode cL_law 1286 = .ok (.aload_n 3, 1) := by decide +kernel
theorem dL_law_1287 : decode cL_law 1287 = .ok (.iconst 0, 1) := by decide +kernel
theorem dL_law_1288 : decode cL_law 1288 = .ok (.laload, 1) := by decide +kernel
theorem dL_law_1289 : decode cL_law 1289 = .ok (.iload 6, 2) := by decide +kernel
theorem dL_law_1291 : decode cL_law 1291 = .ok (.i2l, 1) := by decide +kernel
theorem dL_law_1292 : decode cL_law 1292 = .ok (.lcmp, 1) := by decide +kernel
theorem dL_law_1293 : decode cL_law 1293 = .ok (.ifCond .eq 5, 3) := by decide +kernel
theorem dL_law_1296 : decode cL_law 1296 = .ok (.iconst 0, 1) := by decide +kernel
theorem dL_law_1297 : decode cL_law 1297 = .ok (.ireturn, 1) := by decide +kernel
theorem dL_law_1298 : decode cL_law 1298 = .ok (.goto 58, 3) := by decide +kernel
theorem dL_law_1301 : decode cL_law 1301 = .ok (.aload_n 1, 1) := by decide +kernel
theorem dL_law_1302 : decode cL_law 1302 = .ok (.invokevirtual 144, 3) := by decide +kernel
theorem dL_law_1305 : decode cL_law 1305 = .ok (.dstore 5, 2) := by decide +kernel
theorem dL_law_1307 : decode cL_law 1307 = .ok (.aload_n 2, 1) := by decide +kernel
theorem dL_law_1308 : decode cL_law 1308 = .ok (.invokevirtual 148, 3) := by decide +kernel
theorem dL_law_1311 : decode cL_law 1311 = .ok (.dstore 7, 2) := by decide +kernel
theorem dL_law_1313 : decode cL_law 1313 = .ok (.dload 5, 2) := by decide +kernel
theorem dL_law_1315 : decode cL_law 1315 = .ok (.dload 7, 2) := by decide +kernel
theorem dL_law_1317 : decode cL_law 1317 = .ok (.dcmp .l, 1) := by decide +kernel
theorem dL_law_1318 : decode cL_law 1318 = .ok (.ifCond .eq 21, 3) := by decide +kernel
theorem dL_law_1321 : decode cL_law 1321 = .ok (.dload 5, 2) := by decide +kernel
theorem dL_law_1323 : decode cL_law 1323 = .ok (.dload 5, 2) := by decide +kernel
theorem dL_law_1325 : decode cL_law 1325 = .ok (.dcmp .l, 1) := by decide +kernel
theorem dL_law_1326 : decode cL_law 1326 = .ok (.ifCond .eq 11, 3) := by decide +kernel
theorem dL_law_1329 : decode cL_law 1329 = .ok (.dload 7, 2) := by decide +kernel
theorem dL_law_1331 : decode cL_law 1331 = .ok (.dload 7, 2) := by decide +kernel
theorem dL_law_1333 : decode cL_law 1333 = .ok (.dcmp .l, 1) := by decide +kernel
theorem dL_law_1334 : decode cL_law 1334 = .ok (.ifCond .ne 5, 3) := by decide +kernel
theorem dL_law_1337 : decode cL_law 1337 = .ok (.iconst 0, 1) := by decide +kernel
theorem dL_law_1338 : decode cL_law 1338 = .ok (.ireturn, 1) := by decide +kernel
theorem dL_law_1339 : decode cL_law 1339 = .ok (.goto 17, 3) := by decide +kernel
theorem dL_law_1342 : decode cL_law 1342 = .ok (.aload_n 1, 1) := by decide +kernel
theorem dL_law_1343 : decode cL_law 1343 = .ok (.invokevirtual 149, 3) := by decide +kernel
theorem dL_law_1346 : decode cL_law 1346 = .ok (.aload_n 2, 1) := by decide +kernel
theorem dL_law_1347 : decode cL_law 1347 = .ok (.invokevirtual 153, 3) := by decide +kernel
theorem dL_law_1350 : decode cL_law 1350 = .ok (.lcmp, 1) := by decide +kernel
theorem dL_law_1351 : decode cL_law 1351 = .ok (.ifCond .eq 5, 3) := by decide +kernel
theorem dL_law_1354 : decode cL_law 1354 = .ok (.iconst 0, 1) := by decide +kernel
theorem dL_law_1355 : decode cL_law 1355 = .ok (.ireturn, 1) := by decide +kernel
theorem dL_law_1356 : decode cL_law 1356 = .ok (.iinc 4 4, 3) := by decide +kernel
theorem dL_law_1359 : decode cL_law 1359 = .ok (.goto (-1336), 3) := by decide +kernel
theorem dL_law_1362 : decode cL_law 1362 = .ok (.iconst 1, 1) := by decide +kernel
theorem dL_law_1363 : decode cL_law 1363 = .ok (.ireturn, 1) := by decide +kernel
abbrev vwCl : List vw_C := [(RX0, TX0, 16), (RX1, TX1, 17), (RX2, TX2, 4), (RX3, TX3, 13)]
