def RX0 : String := "LampBus$Gear"
def TX0 : u_T := fun k => match k with
  | 0 => ("LampBus$Gear", "lamp", "LLampBus$Lamp;", true)
  | 1 => ("LampBus$Gear", "scenes", "[I", true)
  | 2 => ("LampBus$Gear", "powerLevel", "I", false)
  | 3 => ("LampBus$Gear", "failLevel", "I", false)
  | 4 => ("LampBus$Gear", "groups", "I", false)
  | 5 => ("LampBus$Gear", "shortAddress", "I", false)
  | 6 => ("LampBus$Gear", "random", "I", false)
  | 7 => ("LampBus$Gear", "nextRandom", "I", false)
  | 8 => ("LampBus$Gear", "dtr", "I", false)
  | 9 => ("LampBus$Gear", "search", "I", false)
  | 10 => ("LampBus$Gear", "initialised", "Z", false)
  | _ => ("LampBus$Gear", "withdrawn", "Z", false)
def tyX0 : Nat → FieldType := fun k => match k with
  | 0 => .object "LampBus$Lamp"
  | 1 => .array .int
  | 2 => .int
  | 3 => .int
  | 4 => .int
  | 5 => .int
  | 6 => .int
  | 7 => .int
  | 8 => .int
  | 9 => .int
  | 10 => .boolean
  | _ => .boolean
theorem nmX0 : ∀ a, a < 12 → ∀ b, b < 12 → a ≠ b → (TX0 a).2.1 ≠ (TX0 b).2.1 := by decide +kernel
theorem tyX0_ok : ∀ k, k < 12 → parseFieldDescriptor (TX0 k).2.2.1 = some (tyX0 k) := by decide +kernel
abbrev cX0_init : ByteArray := prog_2_method_1_code
def yX0_init : MethodName := ⟨RX0, "<init>", "()V"⟩
abbrev cX0_reset : ByteArray := prog_2_method_2_code
def yX0_reset : MethodName := ⟨RX0, "reset", "()V"⟩
abbrev cX0_forgetSearch : ByteArray := prog_2_method_3_code
def yX0_forgetSearch : MethodName := ⟨RX0, "forgetSearch", "()V"⟩
abbrev cX0_startAgain : ByteArray := prog_2_method_4_code
def yX0_startAgain : MethodName := ⟨RX0, "startAgain", "()V"⟩
abbrev cX0_isMeantBy : ByteArray := prog_2_method_5_code
def yX0_isMeantBy : MethodName := ⟨RX0, "isMeantBy", "(I)Z"⟩
abbrev cX0_hearLevel : ByteArray := prog_2_method_6_code
def yX0_hearLevel : MethodName := ⟨RX0, "hearLevel", "(I)V"⟩
abbrev cX0_goToUnlessUnset : ByteArray := prog_2_method_7_code
def yX0_goToUnlessUnset : MethodName := ⟨RX0, "goToUnlessUnset", "(I)V"⟩
abbrev cX0_hearCommand : ByteArray := prog_2_method_8_code
def yX0_hearCommand : MethodName := ⟨RX0, "hearCommand", "(IZ)I"⟩
abbrev cX0_light : ByteArray := prog_2_method_9_code
def yX0_light : MethodName := ⟨RX0, "light", "(I)V"⟩
abbrev cX0_configure : ByteArray := prog_2_method_10_code
def yX0_configure : MethodName := ⟨RX0, "configure", "(I)V"⟩
abbrev cX0_configureNumbered : ByteArray := prog_2_method_11_code
def yX0_configureNumbered : MethodName := ⟨RX0, "configureNumbered", "(II)V"⟩
abbrev cX0_answerTo : ByteArray := prog_2_method_12_code
def yX0_answerTo : MethodName := ⟨RX0, "answerTo", "(I)I"⟩
abbrev cX0_status : ByteArray := prog_2_method_13_code
def yX0_status : MethodName := ⟨RX0, "status", "()I"⟩
abbrev cX0_yesIf : ByteArray := prog_2_method_14_code
def yX0_yesIf : MethodName := ⟨RX0, "yesIf", "(Z)I"⟩
abbrev cX0_hearSpecial : ByteArray := prog_2_method_15_code
def yX0_hearSpecial : MethodName := ⟨RX0, "hearSpecial", "(IIZ)I"⟩
abbrev cX0_isToInitialise : ByteArray := prog_2_method_16_code
def yX0_isToInitialise : MethodName := ⟨RX0, "isToInitialise", "(I)Z"⟩
abbrev cX0_hearInSearch : ByteArray := prog_2_method_17_code
def yX0_hearInSearch : MethodName := ⟨RX0, "hearInSearch", "(II)I"⟩
abbrev cX0_isShortOf : ByteArray := prog_2_method_18_code
def yX0_isShortOf : MethodName := ⟨RX0, "isShortOf", "(I)Z"⟩
abbrev cX0_takeShort : ByteArray := prog_2_method_19_code
def yX0_takeShort : MethodName := ⟨RX0, "takeShort", "(I)V"⟩
abbrev cX0_valueOf : ByteArray := prog_2_method_20_code
def yX0_valueOf : MethodName := ⟨RX0, "valueOf", "(I)I"⟩
def RX1 : String := "LampBus$Lamp"
def TX1 : u_T := fun k => match k with
  | 0 => ("LampBus$Lamp", "level", "I", false)
  | 1 => ("LampBus$Lamp", "least", "I", false)
  | 2 => ("LampBus$Lamp", "most", "I", false)
  | 3 => ("LampBus$Lamp", "fade", "I", false)
  | 4 => ("LampBus$Lamp", "rate", "I", false)
  | 5 => ("LampBus$Lamp", "fadeBegin", "I", false)
  | 6 => ("LampBus$Lamp", "fadeEnd", "I", false)
  | 7 => ("LampBus$Lamp", "ticksPassed", "I", false)
  | _ => ("LampBus$Lamp", "ticksInAll", "I", false)
def tyX1 : Nat → FieldType := fun k => match k with
  | 0 => .int
  | 1 => .int
  | 2 => .int
  | 3 => .int
  | 4 => .int
  | 5 => .int
  | 6 => .int
  | 7 => .int
  | _ => .int
theorem nmX1 : ∀ a, a < 9 → ∀ b, b < 9 → a ≠ b → (TX1 a).2.1 ≠ (TX1 b).2.1 := by decide +kernel
theorem tyX1_ok : ∀ k, k < 9 → parseFieldDescriptor (TX1 k).2.2.1 = some (tyX1 k) := by decide +kernel
abbrev cX1_init : ByteArray := prog_3_method_1_code
def yX1_init : MethodName := ⟨RX1, "<init>", "()V"⟩
abbrev cX1_reset : ByteArray := prog_3_method_2_code
def yX1_reset : MethodName := ⟨RX1, "reset", "()V"⟩
abbrev cX1_isFading : ByteArray := prog_3_method_3_code
def yX1_isFading : MethodName := ⟨RX1, "isFading", "()Z"⟩
abbrev cX1_endFade : ByteArray := prog_3_method_4_code
def yX1_endFade : MethodName := ⟨RX1, "endFade", "()V"⟩
abbrev cX1_setLevel : ByteArray := prog_3_method_5_code
def yX1_setLevel : MethodName := ⟨RX1, "setLevel", "(I)V"⟩
abbrev cX1_clamped : ByteArray := prog_3_method_6_code
def yX1_clamped : MethodName := ⟨RX1, "clamped", "(I)I"⟩
abbrev cX1_offOrClamped : ByteArray := prog_3_method_7_code
def yX1_offOrClamped : MethodName := ⟨RX1, "offOrClamped", "(I)I"⟩
abbrev cX1_goTo : ByteArray := prog_3_method_8_code
def yX1_goTo : MethodName := ⟨RX1, "goTo", "(I)V"⟩
abbrev cX1_passTicks : ByteArray := prog_3_method_9_code
def yX1_passTicks : MethodName := ⟨RX1, "passTicks", "(I)V"⟩
abbrev cX1_moveBy : ByteArray := prog_3_method_10_code
def yX1_moveBy : MethodName := ⟨RX1, "moveBy", "(I)V"⟩
abbrev cX1_rateStep : ByteArray := prog_3_method_11_code
def yX1_rateStep : MethodName := ⟨RX1, "rateStep", "()I"⟩
abbrev cX1_stepDownOrOff : ByteArray := prog_3_method_12_code
def yX1_stepDownOrOff : MethodName := ⟨RX1, "stepDownOrOff", "()V"⟩
abbrev cX1_onOrStepUp : ByteArray := prog_3_method_13_code
def yX1_onOrStepUp : MethodName := ⟨RX1, "onOrStepUp", "()V"⟩
abbrev cX1_setMost : ByteArray := prog_3_method_14_code
def yX1_setMost : MethodName := ⟨RX1, "setMost", "(I)V"⟩
abbrev cX1_setLeast : ByteArray := prog_3_method_15_code
def yX1_setLeast : MethodName := ⟨RX1, "setLeast", "(I)V"⟩
abbrev cX1_setFade : ByteArray := prog_3_method_16_code
def yX1_setFade : MethodName := ⟨RX1, "setFade", "(I)V"⟩
abbrev cX1_setRate : ByteArray := prog_3_method_17_code
def yX1_setRate : MethodName := ⟨RX1, "setRate", "(I)V"⟩
def RX2 : String := "LampBus"
def TX2 : u_T := fun k => match k with
  | 0 => ("LampBus", "gears", "Ljava/util/ArrayList;", true)
  | 1 => ("LampBus", "frameCount", "I", false)
  | 2 => ("LampBus", "compareCount", "I", false)
  | 3 => ("LampBus", "lastA", "I", false)
  | 4 => ("LampBus", "lastB", "I", false)
  | _ => ("LampBus", "lastMayBeFirstOfTwo", "Z", false)
def tyX2 : Nat → FieldType := fun k => match k with
  | 0 => .object "java/util/ArrayList"
  | 1 => .int
  | 2 => .int
  | 3 => .int
  | 4 => .int
  | _ => .boolean
theorem nmX2 : ∀ a, a < 6 → ∀ b, b < 6 → a ≠ b → (TX2 a).2.1 ≠ (TX2 b).2.1 := by decide +kernel
theorem tyX2_ok : ∀ k, k < 6 → parseFieldDescriptor (TX2 k).2.2.1 = some (tyX2 k) := by decide +kernel
abbrev cX2_init : ByteArray := prog_1_method_1_code
def yX2_init : MethodName := ⟨RX2, "<init>", "()V"⟩
abbrev cX2_gear : ByteArray := prog_1_method_2_code
def yX2_gear : MethodName := ⟨RX2, "gear", "()I"⟩
abbrev cX2_give : ByteArray := prog_1_method_3_code
def yX2_give : MethodName := ⟨RX2, "give", "(II)Z"⟩
abbrev cX2_send : ByteArray := prog_1_method_4_code
def yX2_send : MethodName := ⟨RX2, "send", "(II)I"⟩
abbrev cX2_tick : ByteArray := prog_1_method_5_code
def yX2_tick : MethodName := ⟨RX2, "tick", "(I)I"⟩
abbrev cX2_power : ByteArray := prog_1_method_6_code
def yX2_power : MethodName := ⟨RX2, "power", "()V"⟩
abbrev cX2_fail : ByteArray := prog_1_method_7_code
def yX2_fail : MethodName := ⟨RX2, "fail", "()V"⟩
abbrev cX2_commission : ByteArray := prog_1_method_8_code
def yX2_commission : MethodName := ⟨RX2, "commission", "(I)I"⟩
abbrev cX2_compares : ByteArray := prog_1_method_9_code
def yX2_compares : MethodName := ⟨RX2, "compares", "()I"⟩
abbrev cX2_told : ByteArray := prog_1_method_10_code
def yX2_told : MethodName := ⟨RX2, "told", "(II)I"⟩
abbrev cX2_frames : ByteArray := prog_1_method_11_code
def yX2_frames : MethodName := ⟨RX2, "frames", "()I"⟩
abbrev cX2_isGear : ByteArray := prog_1_method_12_code
def yX2_isGear : MethodName := ⟨RX2, "isGear", "(I)Z"⟩
abbrev cX2_isByte : ByteArray := prog_1_method_13_code
def yX2_isByte : MethodName := ⟨RX2, "isByte", "(I)Z"⟩
abbrev cX2_sendSpecial : ByteArray := prog_1_method_14_code
def yX2_sendSpecial : MethodName := ⟨RX2, "sendSpecial", "(II)I"⟩
abbrev cX2_sendAddressed : ByteArray := prog_1_method_15_code
def yX2_sendAddressed : MethodName := ⟨RX2, "sendAddressed", "(II)I"⟩
abbrev cX2_countFrame : ByteArray := prog_1_method_16_code
def yX2_countFrame : MethodName := ⟨RX2, "countFrame", "(II)Z"⟩
abbrev cX2_joined : ByteArray := prog_1_method_17_code
def yX2_joined : MethodName := ⟨RX2, "joined", "(II)I"⟩
abbrev cX2_sendSearch : ByteArray := prog_1_method_18_code
def yX2_sendSearch : MethodName := ⟨RX2, "sendSearch", "(I)V"⟩
abbrev cX2_isAnyWithinSearch : ByteArray := prog_1_method_19_code
def yX2_isAnyWithinSearch : MethodName := ⟨RX2, "isAnyWithinSearch", "()Z"⟩
abbrev cX2_isAnyLeft : ByteArray := prog_1_method_20_code
def yX2_isAnyLeft : MethodName := ⟨RX2, "isAnyLeft", "()Z"⟩
abbrev cX2_searchLeastRandom : ByteArray := prog_1_method_21_code
def yX2_searchLeastRandom : MethodName := ⟨RX2, "searchLeastRandom", "()V"⟩
def RX3 : String := "LampBusModel"
def TX3 : u_T := fun k => match k with
  | 0 => ("LampBusModel", "thrown", "I", false)
  | 1 => ("LampBusModel", "gears", "I", false)
  | 2 => ("LampBusModel", "levels", "[I", true)
  | 3 => ("LampBusModel", "leasts", "[I", true)
  | 4 => ("LampBusModel", "mosts", "[I", true)
  | 5 => ("LampBusModel", "powers", "[I", true)
  | 6 => ("LampBusModel", "fails", "[I", true)
  | 7 => ("LampBusModel", "fades", "[I", true)
  | 8 => ("LampBusModel", "rates", "[I", true)
  | 9 => ("LampBusModel", "groups", "[I", true)
  | 10 => ("LampBusModel", "scenes", "[I", true)
  | 11 => ("LampBusModel", "shorts", "[I", true)
  | 12 => ("LampBusModel", "randoms", "[I", true)
  | 13 => ("LampBusModel", "bytes", "[I", true)
  | 14 => ("LampBusModel", "searches", "[I", true)
  | 15 => ("LampBusModel", "nexts", "[I", true)
  | 16 => ("LampBusModel", "initialised", "[Z", true)
  | 17 => ("LampBusModel", "withdrawn", "[Z", true)
  | 18 => ("LampBusModel", "goals", "[I", true)
  | 19 => ("LampBusModel", "begins", "[I", true)
  | 20 => ("LampBusModel", "spans", "[I", true)
  | 21 => ("LampBusModel", "gone", "[I", true)
  | 22 => ("LampBusModel", "ticks", "[I", true)
  | 23 => ("LampBusModel", "steps", "[I", true)
  | 24 => ("LampBusModel", "frames", "I", false)
  | 25 => ("LampBusModel", "compares", "I", false)
  | 26 => ("LampBusModel", "may", "Z", false)
  | 27 => ("LampBusModel", "lastA", "I", false)
  | 28 => ("LampBusModel", "lastB", "I", false)
  | _ => ("LampBusModel", "heard", "I", false)
def tyX3 : Nat → FieldType := fun k => match k with
  | 0 => .int
  | 1 => .int
  | 2 => .array .int
  | 3 => .array .int
  | 4 => .array .int
  | 5 => .array .int
  | 6 => .array .int
  | 7 => .array .int
  | 8 => .array .int
  | 9 => .array .int
  | 10 => .array .int
  | 11 => .array .int
  | 12 => .array .int
  | 13 => .array .int
  | 14 => .array .int
  | 15 => .array .int
  | 16 => .array .boolean
  | 17 => .array .boolean
  | 18 => .array .int
  | 19 => .array .int
  | 20 => .array .int
  | 21 => .array .int
  | 22 => .array .int
  | 23 => .array .int
  | 24 => .int
  | 25 => .int
  | 26 => .boolean
  | 27 => .int
  | 28 => .int
  | _ => .int
theorem nmX3 : ∀ a, a < 30 → ∀ b, b < 30 → a ≠ b → (TX3 a).2.1 ≠ (TX3 b).2.1 := by decide +kernel
theorem tyX3_ok : ∀ k, k < 30 → parseFieldDescriptor (TX3 k).2.2.1 = some (tyX3 k) := by decide +kernel
abbrev cX3_init : ByteArray := prog_5_method_1_code
def yX3_init : MethodName := ⟨RX3, "<init>", "()V"⟩
abbrev cX3_isIn : ByteArray := prog_5_method_3_code
def yX3_isIn : MethodName := ⟨RX3, "isIn", "(III)Z"⟩
abbrev cX3_begin : ByteArray := prog_5_method_4_code
def yX3_begin : MethodName := ⟨RX3, "begin", "(I)V"⟩
abbrev cX3_gear : ByteArray := prog_5_method_5_code
def yX3_gear : MethodName := ⟨RX3, "gear", "()I"⟩
abbrev cX3_no : ByteArray := prog_5_method_6_code
def yX3_no : MethodName := ⟨RX3, "no", "(I)Z"⟩
abbrev cX3_give : ByteArray := prog_5_method_7_code
def yX3_give : MethodName := ⟨RX3, "give", "(II)Z"⟩
abbrev cX3_set : ByteArray := prog_5_method_8_code
def yX3_set : MethodName := ⟨RX3, "set", "(II)V"⟩
abbrev cX3_within : ByteArray := prog_5_method_9_code
def yX3_within : MethodName := ⟨RX3, "within", "(II)I"⟩
abbrev cX3_goTo : ByteArray := prog_5_method_10_code
def yX3_goTo : MethodName := ⟨RX3, "goTo", "(II)V"⟩
abbrev cX3_step : ByteArray := prog_5_method_11_code
def yX3_step : MethodName := ⟨RX3, "step", "(II)V"⟩
abbrev cX3_bring : ByteArray := prog_5_method_12_code
def yX3_bring : MethodName := ⟨RX3, "bring", "(I)V"⟩
abbrev cX3_say : ByteArray := prog_5_method_13_code
def yX3_say : MethodName := ⟨RX3, "say", "(I)V"⟩
abbrev cX3_command : ByteArray := prog_5_method_14_code
def yX3_command : MethodName := ⟨RX3, "command", "(IIZ)V"⟩
abbrev cX3_level : ByteArray := prog_5_method_15_code
def yX3_level : MethodName := ⟨RX3, "level", "(II)V"⟩
abbrev cX3_setShort : ByteArray := prog_5_method_16_code
def yX3_setShort : MethodName := ⟨RX3, "setShort", "(II)V"⟩
abbrev cX3_change : ByteArray := prog_5_method_17_code
def yX3_change : MethodName := ⟨RX3, "change", "(II)V"⟩
abbrev cX3_ask : ByteArray := prog_5_method_18_code
def yX3_ask : MethodName := ⟨RX3, "ask", "(II)V"⟩
abbrev cX3_special : ByteArray := prog_5_method_19_code
def yX3_special : MethodName := ⟨RX3, "special", "(IIIZ)V"⟩
abbrev cX3_isMeant : ByteArray := prog_5_method_20_code
def yX3_isMeant : MethodName := ⟨RX3, "isMeant", "(II)Z"⟩
abbrev cX3_send : ByteArray := prog_5_method_21_code
def yX3_send : MethodName := ⟨RX3, "send", "(II)I"⟩
abbrev cX3_tick : ByteArray := prog_5_method_22_code
def yX3_tick : MethodName := ⟨RX3, "tick", "(I)I"⟩
abbrev cX3_power : ByteArray := prog_5_method_23_code
def yX3_power : MethodName := ⟨RX3, "power", "()V"⟩
abbrev cX3_fail : ByteArray := prog_5_method_24_code
def yX3_fail : MethodName := ⟨RX3, "fail", "()V"⟩
abbrev cX3_search : ByteArray := prog_5_method_25_code
def yX3_search : MethodName := ⟨RX3, "search", "(I)I"⟩
abbrev cX3_commission : ByteArray := prog_5_method_26_code
def yX3_commission : MethodName := ⟨RX3, "commission", "(I)I"⟩
abbrev cX3_compares : ByteArray := prog_5_method_27_code
def yX3_compares : MethodName := ⟨RX3, "compares", "()I"⟩
abbrev cX3_told : ByteArray := prog_5_method_28_code
def yX3_told : MethodName := ⟨RX3, "told", "(II)I"⟩
abbrev cX3_frames : ByteArray := prog_5_method_29_code
def yX3_frames : MethodName := ⟨RX3, "frames", "()I"⟩
def RJx145de : String := "java/io/Serializable"
def TJx145de : u_T := fun k => match k with
  | _ => ("", "", "", false)
def tyJx145de : Nat → FieldType := fun k => match k with
  | _ => .int
theorem nmJx145de : ∀ a, a < 0 → ∀ b, b < 0 → a ≠ b → (TJx145de a).2.1 ≠ (TJx145de b).2.1 := by decide +kernel
theorem tyJx145de_ok : ∀ k, k < 0 → parseFieldDescriptor (TJx145de k).2.2.1 = some (tyJx145de k) := by decide +kernel
def RJx8e188 : String := "java/lang/Cloneable"
def TJx8e188 : u_T := fun k => match k with
  | _ => ("", "", "", false)
def tyJx8e188 : Nat → FieldType := fun k => match k with
  | _ => .int
theorem nmJx8e188 : ∀ a, a < 0 → ∀ b, b < 0 → a ≠ b → (TJx8e188 a).2.1 ≠ (TJx8e188 b).2.1 := by decide +kernel
theorem tyJx8e188_ok : ∀ k, k < 0 → parseFieldDescriptor (TJx8e188 k).2.2.1 = some (tyJx8e188 k) := by decide +kernel
def RJxab1ab : String := "java/lang/Iterable"
def TJxab1ab : u_T := fun k => match k with
  | _ => ("", "", "", false)
def tyJxab1ab : Nat → FieldType := fun k => match k with
  | _ => .int
theorem nmJxab1ab : ∀ a, a < 0 → ∀ b, b < 0 → a ≠ b → (TJxab1ab a).2.1 ≠ (TJxab1ab b).2.1 := by decide +kernel
theorem tyJxab1ab_ok : ∀ k, k < 0 → parseFieldDescriptor (TJxab1ab k).2.2.1 = some (tyJxab1ab k) := by decide +kernel
def RJ9 : String := "java/lang/Math"
def TJ9 : u_T := fun k => match k with
  | _ => ("", "", "", false)
def tyJ9 : Nat → FieldType := fun k => match k with
  | _ => .int
theorem nmJ9 : ∀ a, a < 0 → ∀ b, b < 0 → a ≠ b → (TJ9 a).2.1 ≠ (TJ9 b).2.1 := by decide +kernel
theorem tyJ9_ok : ∀ k, k < 0 → parseFieldDescriptor (TJ9 k).2.2.1 = some (tyJ9 k) := by decide +kernel
abbrev cJ9_max_7cf53 : ByteArray := prog_9_method_65_code
def yJ9_max_7cf53 : MethodName := ⟨RJ9, "max", "(II)I"⟩
abbrev cJ9_min_7cf53 : ByteArray := prog_9_method_69_code
def yJ9_min_7cf53 : MethodName := ⟨RJ9, "min", "(II)I"⟩
def RJ10 : String := "java/lang/System"
def TJ10 : u_T := fun k => match k with
  | _ => ("", "", "", false)
def tyJ10 : Nat → FieldType := fun k => match k with
  | _ => .int
theorem nmJ10 : ∀ a, a < 0 → ∀ b, b < 0 → a ≠ b → (TJ10 a).2.1 ≠ (TJ10 b).2.1 := by decide +kernel
theorem tyJ10_ok : ∀ k, k < 0 → parseFieldDescriptor (TJ10 k).2.2.1 = some (tyJ10 k) := by decide +kernel
def RJxa1e45 : String := "java/util/AbstractCollection"
def TJxa1e45 : u_T := fun k => match k with
  | _ => ("", "", "", false)
def tyJxa1e45 : Nat → FieldType := fun k => match k with
  | _ => .int
theorem nmJxa1e45 : ∀ a, a < 0 → ∀ b, b < 0 → a ≠ b → (TJxa1e45 a).2.1 ≠ (TJxa1e45 b).2.1 := by decide +kernel
theorem tyJxa1e45_ok : ∀ k, k < 0 → parseFieldDescriptor (TJxa1e45 k).2.2.1 = some (tyJxa1e45 k) := by decide +kernel
abbrev cJxa1e45_init_da8c8 : ByteArray := prog_11_method_1_code
def yJxa1e45_init_da8c8 : MethodName := ⟨RJxa1e45, "<init>", "()V"⟩
def RJxc12de : String := "java/util/AbstractList"
def TJxc12de : u_T := fun k => match k with
  | _ => ("", "", "", false)
def tyJxc12de : Nat → FieldType := fun k => match k with
  | _ => .int
theorem nmJxc12de : ∀ a, a < 0 → ∀ b, b < 0 → a ≠ b → (TJxc12de a).2.1 ≠ (TJxc12de b).2.1 := by decide +kernel
theorem tyJxc12de_ok : ∀ k, k < 0 → parseFieldDescriptor (TJxc12de k).2.2.1 = some (tyJxc12de k) := by decide +kernel
abbrev cJxc12de_init_da8c8 : ByteArray := prog_12_method_1_code
def yJxc12de_init_da8c8 : MethodName := ⟨RJxc12de, "<init>", "()V"⟩
def RJx4a65c : String := "java/util/ArrayList"
def TJx4a65c : u_T := fun k => match k with
  | 0 => ("java/util/AbstractList", "modCount", "I", false)
  | 1 => ("java/util/ArrayList", "elementData", "[Ljava/lang/Object;", false)
  | _ => ("java/util/ArrayList", "size", "I", false)
def tyJx4a65c : Nat → FieldType := fun k => match k with
  | 0 => .int
  | 1 => .array (.object "java/lang/Object")
  | _ => .int
theorem nmJx4a65c : ∀ a, a < 3 → ∀ b, b < 3 → a ≠ b → (TJx4a65c a).2.1 ≠ (TJx4a65c b).2.1 := by decide +kernel
theorem tyJx4a65c_ok : ∀ k, k < 3 → parseFieldDescriptor (TJx4a65c k).2.2.1 = some (tyJx4a65c k) := by decide +kernel
abbrev cJx4a65c_init_da8c8 : ByteArray := prog_13_method_2_code
def yJx4a65c_init_da8c8 : MethodName := ⟨RJx4a65c, "<init>", "()V"⟩
abbrev cJx4a65c_grow_92f84 : ByteArray := prog_13_method_6_code
def yJx4a65c_grow_92f84 : MethodName := ⟨RJx4a65c, "grow", "(I)[Ljava/lang/Object;"⟩
abbrev cJx4a65c_grow_d5877 : ByteArray := prog_13_method_7_code
def yJx4a65c_grow_d5877 : MethodName := ⟨RJx4a65c, "grow", "()[Ljava/lang/Object;"⟩
abbrev cJx4a65c_size_8abf5 : ByteArray := prog_13_method_8_code
def yJx4a65c_size_8abf5 : MethodName := ⟨RJx4a65c, "size", "()I"⟩
abbrev cJx4a65c_elementData_915e3 : ByteArray := prog_13_method_18_code
def yJx4a65c_elementData_915e3 : MethodName := ⟨RJx4a65c, "elementData", "(I)Ljava/lang/Object;"⟩
abbrev cJx4a65c_get_915e3 : ByteArray := prog_13_method_20_code
def yJx4a65c_get_915e3 : MethodName := ⟨RJx4a65c, "get", "(I)Ljava/lang/Object;"⟩
abbrev cJx4a65c_add_72be8 : ByteArray := prog_13_method_24_code
def yJx4a65c_add_72be8 : MethodName := ⟨RJx4a65c, "add", "(Ljava/lang/Object;[Ljava/lang/Object;I)V"⟩
abbrev cJx4a65c_add_9ea2d : ByteArray := prog_13_method_25_code
def yJx4a65c_add_9ea2d : MethodName := ⟨RJx4a65c, "add", "(Ljava/lang/Object;)Z"⟩
def RJ7 : String := "java/util/Arrays"
def TJ7 : u_T := fun k => match k with
  | _ => ("", "", "", false)
def tyJ7 : Nat → FieldType := fun k => match k with
  | _ => .int
theorem nmJ7 : ∀ a, a < 0 → ∀ b, b < 0 → a ≠ b → (TJ7 a).2.1 ≠ (TJ7 b).2.1 := by decide +kernel
theorem tyJ7_ok : ∀ k, k < 0 → parseFieldDescriptor (TJ7 k).2.2.1 = some (tyJ7 k) := by decide +kernel
abbrev cJ7_fill_53178 : ByteArray := prog_14_method_103_code
def yJ7_fill_53178 : MethodName := ⟨RJ7, "fill", "([II)V"⟩
abbrev cJ7_copyOf_1904c : ByteArray := prog_14_method_119_code
def yJ7_copyOf_1904c : MethodName := ⟨RJ7, "copyOf", "([Ljava/lang/Object;I)[Ljava/lang/Object;"⟩
abbrev cJ7_copyOf_6403c : ByteArray := prog_14_method_120_code
def yJ7_copyOf_6403c : MethodName := ⟨RJ7, "copyOf", "([Ljava/lang/Object;ILjava/lang/Class;)[Ljava/lang/Object;"⟩
def RJx5ef63 : String := "java/util/Collection"
def TJx5ef63 : u_T := fun k => match k with
  | _ => ("", "", "", false)
def tyJx5ef63 : Nat → FieldType := fun k => match k with
  | _ => .int
theorem nmJx5ef63 : ∀ a, a < 0 → ∀ b, b < 0 → a ≠ b → (TJx5ef63 a).2.1 ≠ (TJx5ef63 b).2.1 := by decide +kernel
theorem tyJx5ef63_ok : ∀ k, k < 0 → parseFieldDescriptor (TJx5ef63 k).2.2.1 = some (tyJx5ef63 k) := by decide +kernel
def RJxbd725 : String := "java/util/List"
def TJxbd725 : u_T := fun k => match k with
  | _ => ("", "", "", false)
def tyJxbd725 : Nat → FieldType := fun k => match k with
  | _ => .int
theorem nmJxbd725 : ∀ a, a < 0 → ∀ b, b < 0 → a ≠ b → (TJxbd725 a).2.1 ≠ (TJxbd725 b).2.1 := by decide +kernel
theorem tyJxbd725_ok : ∀ k, k < 0 → parseFieldDescriptor (TJxbd725 k).2.2.1 = some (tyJxbd725 k) := by decide +kernel
def RJ15 : String := "java/util/Objects"
def TJ15 : u_T := fun k => match k with
  | _ => ("", "", "", false)
def tyJ15 : Nat → FieldType := fun k => match k with
  | _ => .int
theorem nmJ15 : ∀ a, a < 0 → ∀ b, b < 0 → a ≠ b → (TJ15 a).2.1 ≠ (TJ15 b).2.1 := by decide +kernel
theorem tyJ15_ok : ∀ k, k < 0 → parseFieldDescriptor (TJ15 k).2.2.1 = some (tyJ15 k) := by decide +kernel
abbrev cJ15_checkIndex_7cf53 : ByteArray := prog_17_method_17_code
def yJ15_checkIndex_7cf53 : MethodName := ⟨RJ15, "checkIndex", "(II)I"⟩
def RJxf0a74 : String := "java/util/RandomAccess"
def TJxf0a74 : u_T := fun k => match k with
  | _ => ("", "", "", false)
def tyJxf0a74 : Nat → FieldType := fun k => match k with
  | _ => .int
theorem nmJxf0a74 : ∀ a, a < 0 → ∀ b, b < 0 → a ≠ b → (TJxf0a74 a).2.1 ≠ (TJxf0a74 b).2.1 := by decide +kernel
theorem tyJxf0a74_ok : ∀ k, k < 0 → parseFieldDescriptor (TJxf0a74 k).2.2.1 = some (tyJxf0a74 k) := by decide +kernel
def RJxa66e6 : String := "java/util/SequencedCollection"
def TJxa66e6 : u_T := fun k => match k with
  | _ => ("", "", "", false)
def tyJxa66e6 : Nat → FieldType := fun k => match k with
  | _ => .int
theorem nmJxa66e6 : ∀ a, a < 0 → ∀ b, b < 0 → a ≠ b → (TJxa66e6 a).2.1 ≠ (TJxa66e6 b).2.1 := by decide +kernel
theorem tyJxa66e6_ok : ∀ k, k < 0 → parseFieldDescriptor (TJxa66e6 k).2.2.1 = some (tyJxa66e6 k) := by decide +kernel
def RJ8 : String := "jdk/internal/util/ArraysSupport"
def TJ8 : u_T := fun k => match k with
  | _ => ("", "", "", false)
def tyJ8 : Nat → FieldType := fun k => match k with
  | _ => .int
theorem nmJ8 : ∀ a, a < 0 → ∀ b, b < 0 → a ≠ b → (TJ8 a).2.1 ≠ (TJ8 b).2.1 := by decide +kernel
theorem tyJ8_ok : ∀ k, k < 0 → parseFieldDescriptor (TJ8 k).2.2.1 = some (tyJ8 k) := by decide +kernel
abbrev cJ8_newLength_cabcc : ByteArray := prog_20_method_27_code
def yJ8_newLength_cabcc : MethodName := ⟨RJ8, "newLength", "(III)I"⟩
abbrev cJ8_hugeLength_7cf53 : ByteArray := prog_20_method_28_code
def yJ8_hugeLength_7cf53 : MethodName := ⟨RJ8, "hugeLength", "(II)I"⟩
def RJ3 : String := "jdk/internal/util/Preconditions"
def TJ3 : u_T := fun k => match k with
  | _ => ("", "", "", false)
def tyJ3 : Nat → FieldType := fun k => match k with
  | _ => .int
theorem nmJ3 : ∀ a, a < 0 → ∀ b, b < 0 → a ≠ b → (TJ3 a).2.1 ≠ (TJ3 b).2.1 := by decide +kernel
theorem tyJ3_ok : ∀ k, k < 0 → parseFieldDescriptor (TJ3 k).2.2.1 = some (tyJ3 k) := by decide +kernel
abbrev cJ3_checkIndex_8e157 : ByteArray := prog_21_method_11_code
def yJ3_checkIndex_8e157 : MethodName := ⟨RJ3, "checkIndex", "(IILjava/util/function/BiFunction;)I"⟩
def RL : String := "LampBusLaw"
abbrev cL_law : ByteArray := code
def yL_law : MethodName := ⟨RL, "law", "([I)Z"⟩
