theorem goodIn_r {big : List Cond} (ws : List Cond) (ps : List Nat) (hp : ws = ps.filterMap (fun i => big[i]?)) (h : ws.all goodWord = true) : GoodIn big ws := by
  intro w hw
  have h1 := List.all_eq_true.mp h w hw
  rw [hp] at hw
  obtain ⟨i, -, hi⟩ := List.mem_filterMap.mp hw
  have hm : w ∈ big := by first | exact List.mem_of_getElem? hi | exact List.getElem?_mem hi
  exact ⟨hm, good_of_word h1⟩
theorem goodIn_app {big a b : List Cond} (ha : GoodIn big a) (hb : GoodIn big b) : GoodIn big (a ++ b) := fun w h => (List.mem_append.mp h).elim (ha w) (hb w)
theorem goodIn_ca {big a b : List Cond} {c : Cond} (ha : GoodIn big (c :: a)) (hb : GoodIn big b) : GoodIn big (c :: (a ++ b)) := fun w h => (List.mem_cons.mp h).elim (fun e => ha w (List.mem_cons.mpr (Or.inl e))) (fun h => (List.mem_append.mp h).elim (fun h => ha w (List.mem_cons.mpr (Or.inr h))) (hb w))
theorem goodIn_sub {big ws : List Cond} (hm : ∀ w ∈ ws, w ∈ big) (h : ws.all goodWord = true) : GoodIn big ws := fun w hw => ⟨hm w hw, good_of_word (List.all_eq_true.mp h w hw)⟩

def RX0 : String := "BloodCircuitChannels"
def TX0 : u_T := fun k => match k with
  | 0 => ("BloodCircuitChannels", "parameters", "[I", true)
  | 1 => ("BloodCircuitChannels", "raw", "[I", true)
  | 2 => ("BloodCircuitChannels", "conditioned", "[I", true)
  | 3 => ("BloodCircuitChannels", "implausibleTicks", "[I", true)
  | 4 => ("BloodCircuitChannels", "phase", "I", false)
  | 5 => ("BloodCircuitChannels", "alarms", "I", false)
  | 6 => ("BloodCircuitChannels", "conditions", "I", false)
  | 7 => ("BloodCircuitChannels", "outputs", "I", false)
  | 8 => ("BloodCircuitChannels", "substituted", "I", false)
  | 9 => ("BloodCircuitChannels", "effective", "I", false)
  | 10 => ("BloodCircuitChannels", "accounted", "I", false)
  | 11 => ("BloodCircuitChannels", "strokes", "I", false)
  | 12 => ("BloodCircuitChannels", "trips", "I", false)
  | 13 => ("BloodCircuitChannels", "counted", "I", false)
  | 14 => ("BloodCircuitChannels", "steadyTicks", "I", false)
  | 15 => ("BloodCircuitChannels", "fluidOffTicks", "I", false)
  | 16 => ("BloodCircuitChannels", "arterialOutTicks", "I", false)
  | _ => ("BloodCircuitChannels", "venousOutTicks", "I", false)
def tyX0 : Nat → FieldType := fun k => match k with
  | 0 => .array .int
  | 1 => .array .int
  | 2 => .array .int
  | 3 => .array .int
  | 4 => .int
  | 5 => .int
  | 6 => .int
  | 7 => .int
  | 8 => .int
  | 9 => .int
  | 10 => .int
  | 11 => .int
  | 12 => .int
  | 13 => .int
  | 14 => .int
  | 15 => .int
  | 16 => .int
  | _ => .int
abbrev wsX00 : List Cond := u_ws RX0 TX0 18
theorem nmX0 : ∀ a, a < 18 → ∀ b, b < 18 → a ≠ b → (TX0 a).2.1 ≠ (TX0 b).2.1 := by decide +kernel
theorem tyX0_ok : ∀ k, k < 18 → parseFieldDescriptor (TX0 k).2.2.1 = some (tyX0 k) := by decide +kernel
abbrev cX0_init : ByteArray := prog_1_method_1_code
def yX0_init : MethodName := ⟨RX0, "<init>", "()V"⟩
abbrev cX0_set : ByteArray := prog_1_method_2_code
def yX0_set : MethodName := ⟨RX0, "set", "(II)Z"⟩
abbrev cX0_parameter : ByteArray := prog_1_method_3_code
def yX0_parameter : MethodName := ⟨RX0, "parameter", "(I)I"⟩
abbrev cX0_sense : ByteArray := prog_1_method_4_code
def yX0_sense : MethodName := ⟨RX0, "sense", "(II)Z"⟩
abbrev cX0_conditioned : ByteArray := prog_1_method_5_code
def yX0_conditioned : MethodName := ⟨RX0, "conditioned", "(I)I"⟩
abbrev cX0_faulty : ByteArray := prog_1_method_6_code
def yX0_faulty : MethodName := ⟨RX0, "faulty", "(I)Z"⟩
abbrev cX0_next : ByteArray := prog_1_method_7_code
def yX0_next : MethodName := ⟨RX0, "next", "()I"⟩
abbrev cX0_acknowledge : ByteArray := prog_1_method_8_code
def yX0_acknowledge : MethodName := ⟨RX0, "acknowledge", "()I"⟩
abbrev cX0_substitute : ByteArray := prog_1_method_9_code
def yX0_substitute : MethodName := ⟨RX0, "substitute", "(I)Z"⟩
abbrev cX0_tick : ByteArray := prog_1_method_10_code
def yX0_tick : MethodName := ⟨RX0, "tick", "(I)I"⟩
abbrev cX0_phase : ByteArray := prog_1_method_11_code
def yX0_phase : MethodName := ⟨RX0, "phase", "()I"⟩
abbrev cX0_alarms : ByteArray := prog_1_method_12_code
def yX0_alarms : MethodName := ⟨RX0, "alarms", "()I"⟩
abbrev cX0_conditions : ByteArray := prog_1_method_13_code
def yX0_conditions : MethodName := ⟨RX0, "conditions", "()I"⟩
abbrev cX0_outputs : ByteArray := prog_1_method_14_code
def yX0_outputs : MethodName := ⟨RX0, "outputs", "()I"⟩
abbrev cX0_effective : ByteArray := prog_1_method_15_code
def yX0_effective : MethodName := ⟨RX0, "effective", "()I"⟩
abbrev cX0_accounted : ByteArray := prog_1_method_16_code
def yX0_accounted : MethodName := ⟨RX0, "accounted", "()I"⟩
abbrev cX0_strokes : ByteArray := prog_1_method_17_code
def yX0_strokes : MethodName := ⟨RX0, "strokes", "()I"⟩
abbrev cX0_trips : ByteArray := prog_1_method_18_code
def yX0_trips : MethodName := ⟨RX0, "trips", "()I"⟩
abbrev cX0_counted : ByteArray := prog_1_method_19_code
def yX0_counted : MethodName := ⟨RX0, "counted", "()I"⟩
abbrev cX0_isParameter : ByteArray := prog_1_method_21_code
def yX0_isParameter : MethodName := ⟨RX0, "isParameter", "(I)Z"⟩
abbrev cX0_isSensor : ByteArray := prog_1_method_22_code
def yX0_isSensor : MethodName := ⟨RX0, "isSensor", "(I)Z"⟩
abbrev cX0_isOutside : ByteArray := prog_1_method_23_code
def yX0_isOutside : MethodName := ⟨RX0, "isOutside", "(III)Z"⟩
abbrev cX0_mayLeavePhase : ByteArray := prog_1_method_24_code
def yX0_mayLeavePhase : MethodName := ⟨RX0, "mayLeavePhase", "()Z"⟩
abbrev cX0_areConsistent : ByteArray := prog_1_method_25_code
def yX0_areConsistent : MethodName := ⟨RX0, "areConsistent", "()Z"⟩
abbrev cX0_beginPhase : ByteArray := prog_1_method_26_code
def yX0_beginPhase : MethodName := ⟨RX0, "beginPhase", "(I)V"⟩
abbrev cX0_makeTick : ByteArray := prog_1_method_27_code
def yX0_makeTick : MethodName := ⟨RX0, "makeTick", "()Z"⟩
abbrev cX0_conditionSensors : ByteArray := prog_1_method_28_code
def yX0_conditionSensors : MethodName := ⟨RX0, "conditionSensors", "()V"⟩
abbrev cX0_countTicksInARow : ByteArray := prog_1_method_29_code
def yX0_countTicksInARow : MethodName := ⟨RX0, "countTicksInARow", "()V"⟩
abbrev cX0_isConnected : ByteArray := prog_1_method_30_code
def yX0_isConnected : MethodName := ⟨RX0, "isConnected", "()Z"⟩
abbrev cX0_isFluidOff : ByteArray := prog_1_method_31_code
def yX0_isFluidOff : MethodName := ⟨RX0, "isFluidOff", "()Z"⟩
abbrev cX0_conditionsNow : ByteArray := prog_1_method_32_code
def yX0_conditionsNow : MethodName := ⟨RX0, "conditionsNow", "()I"⟩
abbrev cX0_isSomeSensorFaulty : ByteArray := prog_1_method_33_code
def yX0_isSomeSensorFaulty : MethodName := ⟨RX0, "isSomeSensorFaulty", "()Z"⟩
abbrev cX0_commandsOfControl : ByteArray := prog_1_method_34_code
def yX0_commandsOfControl : MethodName := ⟨RX0, "commandsOfControl", "()I"⟩
abbrev cX0_isStrokeWanted : ByteArray := prog_1_method_35_code
def yX0_isStrokeWanted : MethodName := ⟨RX0, "isStrokeWanted", "()Z"⟩
abbrev cX0_ticksOfTreatment : ByteArray := prog_1_method_36_code
def yX0_ticksOfTreatment : MethodName := ⟨RX0, "ticksOfTreatment", "()I"⟩
abbrev cX0_afterProtection : ByteArray := prog_1_method_37_code
def yX0_afterProtection : MethodName := ⟨RX0, "afterProtection", "(I)I"⟩
abbrev cX0_isRawDangerous : ByteArray := prog_1_method_38_code
def yX0_isRawDangerous : MethodName := ⟨RX0, "isRawDangerous", "()Z"⟩
abbrev cX0_isStrokeTooMuch : ByteArray := prog_1_method_39_code
def yX0_isStrokeTooMuch : MethodName := ⟨RX0, "isStrokeTooMuch", "()Z"⟩
abbrev cX0_countTowardsEnd : ByteArray := prog_1_method_40_code
def yX0_countTowardsEnd : MethodName := ⟨RX0, "countTowardsEnd", "()V"⟩
def RX1 : String := "BloodCircuitChannelsModel"
def TX1 : u_T := fun k => match k with
  | _ => ("", "", "", false)
def tyX1 : Nat → FieldType := fun k => match k with
  | _ => .int
abbrev wsX10 : List Cond := u_ws RX1 TX1 0
theorem nmX1 : ∀ a, a < 0 → ∀ b, b < 0 → a ≠ b → (TX1 a).2.1 ≠ (TX1 b).2.1 := by decide +kernel
theorem tyX1_ok : ∀ k, k < 0 → parseFieldDescriptor (TX1 k).2.2.1 = some (tyX1 k) := by decide +kernel
def RJx8e188 : String := "java/lang/Cloneable"
def TJx8e188 : u_T := fun k => match k with
  | _ => ("", "", "", false)
def tyJx8e188 : Nat → FieldType := fun k => match k with
  | _ => .int
abbrev wsJx8e1880 : List Cond := u_ws RJx8e188 TJx8e188 0
theorem nmJx8e188 : ∀ a, a < 0 → ∀ b, b < 0 → a ≠ b → (TJx8e188 a).2.1 ≠ (TJx8e188 b).2.1 := by decide +kernel
theorem tyJx8e188_ok : ∀ k, k < 0 → parseFieldDescriptor (TJx8e188 k).2.2.1 = some (tyJx8e188 k) := by decide +kernel
def RJ9 : String := "java/lang/Math"
def TJ9 : u_T := fun k => match k with
  | _ => ("", "", "", false)
def tyJ9 : Nat → FieldType := fun k => match k with
  | _ => .int
abbrev wsJ90 : List Cond := u_ws RJ9 TJ9 0
theorem nmJ9 : ∀ a, a < 0 → ∀ b, b < 0 → a ≠ b → (TJ9 a).2.1 ≠ (TJ9 b).2.1 := by decide +kernel
theorem tyJ9_ok : ∀ k, k < 0 → parseFieldDescriptor (TJ9 k).2.2.1 = some (tyJ9 k) := by decide +kernel
abbrev cJ9_abs_0f7a4 : ByteArray := prog_5_method_59_code
def yJ9_abs_0f7a4 : MethodName := ⟨RJ9, "abs", "(I)I"⟩
def RL : String := "BloodCircuitChannelsLaw"
abbrev cL_law : ByteArray := code
def yL_law : MethodName := ⟨RL, "law", "([I)Z"⟩
def wsX0_init : List Cond := .code yX0_init cX0_init 1 none :: ([.methodLink RX0 3 objectInit, .instanceMethod objectInit, .code objectInit ⟨#[0xb1]⟩ 1 none, .fieldLink RX0 9 "BloodCircuitChannels" "PARAMETER_AT_FIRST" "[I", .methodLink RX0 13 ⟨"[I", "clone", "()Ljava/lang/Object;"⟩, .sameMethod "[I" "java/lang/Object" "clone" "()Ljava/lang/Object;", .native ⟨"java/lang/Object", "clone", "()Ljava/lang/Object;"⟩, .instanceMethod ⟨"java/lang/Object", "clone", "()Ljava/lang/Object;"⟩, .selects "[I" ⟨"[I", "clone", "()Ljava/lang/Object;"⟩ ⟨"java/lang/Object", "clone", "()Ljava/lang/Object;"⟩, .classLink RX0 14 "[I", .fieldLink RX0 18 "BloodCircuitChannels" "parameters" "[I", .fieldLink RX0 21 "BloodCircuitChannels" "SENSOR_AT_FIRST" "[I", .fieldLink RX0 24 "BloodCircuitChannels" "raw" "[I", .fieldLink RX0 27 "BloodCircuitChannels" "conditioned" "[I", .arrayClass .int, .fieldLink RX0 30 "BloodCircuitChannels" "implausibleTicks" "[I", .fieldLink RX0 33 "BloodCircuitChannels" "phase" "I", .fieldLink RX0 37 "BloodCircuitChannels" "substituted" "I"] ++ wsX00)
def wsX0_isParameter : List Cond := .code yX0_isParameter cX0_isParameter 1 (some .boolean) :: ([])
def wsX0_isOutside : List Cond := .code yX0_isOutside cX0_isOutside 3 (some .boolean) :: ([])
def wsX0_set : List Cond := .code yX0_set cX0_set 3 (some .boolean) :: ([.fieldLink RX0 33 "BloodCircuitChannels" "phase" "I", .fieldLink RX0 44 "BloodCircuitChannels" "PARAMETER_LEAST" "[I", .fieldLink RX0 47 "BloodCircuitChannels" "PARAMETER_GREATEST" "[I", .fieldLink RX0 18 "BloodCircuitChannels" "parameters" "[I", .methodLink RX0 40 yX0_isParameter, .static yX0_isParameter, .initialized RX0, .code yX0_isParameter cX0_isParameter 1 (some .boolean), .methodLink RX0 50 yX0_isOutside, .static yX0_isOutside, .code yX0_isOutside cX0_isOutside 3 (some .boolean)] ++ wsX00)
def wsX0_parameter : List Cond := .code yX0_parameter cX0_parameter 2 (some .int) :: ([.fieldLink RX0 18 "BloodCircuitChannels" "parameters" "[I", .methodLink RX0 40 yX0_isParameter, .static yX0_isParameter, .initialized RX0, .code yX0_isParameter cX0_isParameter 1 (some .boolean)] ++ wsX00)
def wsX0_isSensor : List Cond := .code yX0_isSensor cX0_isSensor 1 (some .boolean) :: ([])
def wsX0_sense : List Cond := .code yX0_sense cX0_sense 3 (some .boolean) :: ([.fieldLink RX0 24 "BloodCircuitChannels" "raw" "[I", .methodLink RX0 54 yX0_isSensor, .static yX0_isSensor, .initialized RX0, .code yX0_isSensor cX0_isSensor 1 (some .boolean)] ++ wsX00)
def wsX0_conditioned : List Cond := .code yX0_conditioned cX0_conditioned 2 (some .int) :: ([.fieldLink RX0 27 "BloodCircuitChannels" "conditioned" "[I", .methodLink RX0 54 yX0_isSensor, .static yX0_isSensor, .initialized RX0, .code yX0_isSensor cX0_isSensor 1 (some .boolean)] ++ wsX00)
def wsX0_faulty : List Cond := .code yX0_faulty cX0_faulty 2 (some .boolean) :: ([.fieldLink RX0 30 "BloodCircuitChannels" "implausibleTicks" "[I", .methodLink RX0 54 yX0_isSensor, .static yX0_isSensor, .initialized RX0, .code yX0_isSensor cX0_isSensor 1 (some .boolean)] ++ wsX00)
def wsX0_areConsistent : List Cond := .code yX0_areConsistent cX0_areConsistent 1 (some .boolean) :: ([.fieldLink RX0 18 "BloodCircuitChannels" "parameters" "[I"] ++ wsX00)
def wsX0_mayLeavePhase : List Cond := .code yX0_mayLeavePhase cX0_mayLeavePhase 1 (some .boolean) :: ([.fieldLink RX0 33 "BloodCircuitChannels" "phase" "I", .fieldLink RX0 92 "BloodCircuitChannels" "steadyTicks" "I", .fieldLink RX0 65 "BloodCircuitChannels" "alarms" "I", .fieldLink RX0 89 "BloodCircuitChannels" "counted" "I", .methodLink RX0 95 yX0_areConsistent, .instanceMethod yX0_areConsistent, .selects RX0 yX0_areConsistent yX0_areConsistent, .initialized RX0, .code yX0_areConsistent cX0_areConsistent 1 (some .boolean), .fieldLink RX0 18 "BloodCircuitChannels" "parameters" "[I"] ++ wsX00)
def wsX0_beginPhase : List Cond := .code yX0_beginPhase cX0_beginPhase 2 none :: ([.fieldLink RX0 33 "BloodCircuitChannels" "phase" "I", .fieldLink RX0 89 "BloodCircuitChannels" "counted" "I", .fieldLink RX0 77 "BloodCircuitChannels" "effective" "I", .fieldLink RX0 80 "BloodCircuitChannels" "accounted" "I", .fieldLink RX0 83 "BloodCircuitChannels" "strokes" "I"] ++ wsX00)
def wsX0_next : List Cond := .code yX0_next cX0_next 1 (some .int) :: ([.fieldLink RX0 33 "BloodCircuitChannels" "phase" "I", .methodLink RX0 57 yX0_mayLeavePhase, .instanceMethod yX0_mayLeavePhase, .selects RX0 yX0_mayLeavePhase yX0_mayLeavePhase, .initialized RX0, .code yX0_mayLeavePhase cX0_mayLeavePhase 1 (some .boolean), .fieldLink RX0 92 "BloodCircuitChannels" "steadyTicks" "I", .fieldLink RX0 65 "BloodCircuitChannels" "alarms" "I", .fieldLink RX0 89 "BloodCircuitChannels" "counted" "I", .methodLink RX0 95 yX0_areConsistent, .instanceMethod yX0_areConsistent, .selects RX0 yX0_areConsistent yX0_areConsistent, .code yX0_areConsistent cX0_areConsistent 1 (some .boolean), .fieldLink RX0 18 "BloodCircuitChannels" "parameters" "[I", .methodLink RX0 61 yX0_beginPhase, .instanceMethod yX0_beginPhase, .selects RX0 yX0_beginPhase yX0_beginPhase, .code yX0_beginPhase cX0_beginPhase 2 none, .fieldLink RX0 77 "BloodCircuitChannels" "effective" "I", .fieldLink RX0 80 "BloodCircuitChannels" "accounted" "I", .fieldLink RX0 83 "BloodCircuitChannels" "strokes" "I"] ++ wsX00)
def wsX0_acknowledge : List Cond := .code yX0_acknowledge cX0_acknowledge 1 (some .int) :: ([.fieldLink RX0 65 "BloodCircuitChannels" "alarms" "I", .fieldLink RX0 68 "BloodCircuitChannels" "conditions" "I"] ++ wsX00)
def wsX0_substitute : List Cond := .code yX0_substitute cX0_substitute 2 (some .boolean) :: ([.fieldLink RX0 37 "BloodCircuitChannels" "substituted" "I", .methodLink RX0 50 yX0_isOutside, .static yX0_isOutside, .initialized RX0, .code yX0_isOutside cX0_isOutside 3 (some .boolean)] ++ wsX00)
def wsX0_conditionSensors : List Cond := .code yX0_conditionSensors cX0_conditionSensors 2 none :: ([.fieldLink RX0 24 "BloodCircuitChannels" "raw" "[I", .fieldLink RX0 118 "BloodCircuitChannels" "SENSOR_LEAST" "[I", .fieldLink RX0 121 "BloodCircuitChannels" "SENSOR_GREATEST" "[I", .fieldLink RX0 30 "BloodCircuitChannels" "implausibleTicks" "[I", .fieldLink RX0 27 "BloodCircuitChannels" "conditioned" "[I", .methodLink RX0 50 yX0_isOutside, .static yX0_isOutside, .initialized RX0, .code yX0_isOutside cX0_isOutside 3 (some .boolean)] ++ wsX00)
def wsX0_isConnected : List Cond := .code yX0_isConnected cX0_isConnected 1 (some .boolean) :: ([.fieldLink RX0 33 "BloodCircuitChannels" "phase" "I"] ++ wsX00)
def wsX0_isFluidOff : List Cond := .code yX0_isFluidOff cX0_isFluidOff 1 (some .boolean) :: ([.fieldLink RX0 27 "BloodCircuitChannels" "conditioned" "[I", .fieldLink RX0 18 "BloodCircuitChannels" "parameters" "[I", .methodLink RX0 139 Lib.Math.abs.name, .static Lib.Math.abs.name, .initialized "java/lang/Math", .code Lib.Math.abs.name Lib.Math.abs.code 1 (some .int)] ++ wsX00)
def wsX0_countTicksInARow : List Cond := .code yX0_countTicksInARow cX0_countTicksInARow 5 none :: ([.fieldLink RX0 27 "BloodCircuitChannels" "conditioned" "[I", .fieldLink RX0 18 "BloodCircuitChannels" "parameters" "[I", .fieldLink RX0 130 "BloodCircuitChannels" "arterialOutTicks" "I", .fieldLink RX0 133 "BloodCircuitChannels" "venousOutTicks" "I", .fieldLink RX0 136 "BloodCircuitChannels" "fluidOffTicks" "I", .fieldLink RX0 92 "BloodCircuitChannels" "steadyTicks" "I", .methodLink RX0 124 yX0_isConnected, .instanceMethod yX0_isConnected, .selects RX0 yX0_isConnected yX0_isConnected, .initialized RX0, .code yX0_isConnected cX0_isConnected 1 (some .boolean), .fieldLink RX0 33 "BloodCircuitChannels" "phase" "I", .methodLink RX0 50 yX0_isOutside, .static yX0_isOutside, .code yX0_isOutside cX0_isOutside 3 (some .boolean), .methodLink RX0 127 yX0_isFluidOff, .instanceMethod yX0_isFluidOff, .selects RX0 yX0_isFluidOff yX0_isFluidOff, .code yX0_isFluidOff cX0_isFluidOff 1 (some .boolean), .methodLink RX0 139 Lib.Math.abs.name, .static Lib.Math.abs.name, .initialized "java/lang/Math", .code Lib.Math.abs.name Lib.Math.abs.code 1 (some .int)] ++ wsX00)
def wsX0_isSomeSensorFaulty : List Cond := .code yX0_isSomeSensorFaulty cX0_isSomeSensorFaulty 2 (some .boolean) :: ([.fieldLink RX0 30 "BloodCircuitChannels" "implausibleTicks" "[I"] ++ wsX00)
def wsX0_conditionsNow : List Cond := .code yX0_conditionsNow cX0_conditionsNow 1 (some .int) :: ([.fieldLink RX0 130 "BloodCircuitChannels" "arterialOutTicks" "I", .fieldLink RX0 133 "BloodCircuitChannels" "venousOutTicks" "I", .fieldLink RX0 27 "BloodCircuitChannels" "conditioned" "[I", .fieldLink RX0 33 "BloodCircuitChannels" "phase" "I", .fieldLink RX0 136 "BloodCircuitChannels" "fluidOffTicks" "I", .methodLink RX0 124 yX0_isConnected, .instanceMethod yX0_isConnected, .selects RX0 yX0_isConnected yX0_isConnected, .initialized RX0, .code yX0_isConnected cX0_isConnected 1 (some .boolean), .methodLink RX0 144 yX0_isSomeSensorFaulty, .instanceMethod yX0_isSomeSensorFaulty, .selects RX0 yX0_isSomeSensorFaulty yX0_isSomeSensorFaulty, .code yX0_isSomeSensorFaulty cX0_isSomeSensorFaulty 2 (some .boolean), .fieldLink RX0 30 "BloodCircuitChannels" "implausibleTicks" "[I"] ++ wsX00)
def wsX0_ticksOfTreatment : List Cond := .code yX0_ticksOfTreatment cX0_ticksOfTreatment 1 (some .int) :: ([.fieldLink RX0 18 "BloodCircuitChannels" "parameters" "[I"] ++ wsX00)
def wsX0_isStrokeWanted : List Cond := .code yX0_isStrokeWanted cX0_isStrokeWanted 3 (some .boolean) :: ([.fieldLink RX0 18 "BloodCircuitChannels" "parameters" "[I", .constantLong RX0 150 (1000), .fieldLink RX0 77 "BloodCircuitChannels" "effective" "I", .fieldLink RX0 80 "BloodCircuitChannels" "accounted" "I", .methodLink RX0 152 yX0_ticksOfTreatment, .instanceMethod yX0_ticksOfTreatment, .selects RX0 yX0_ticksOfTreatment yX0_ticksOfTreatment, .initialized RX0, .code yX0_ticksOfTreatment cX0_ticksOfTreatment 1 (some .int)] ++ wsX00)
def wsX0_commandsOfControl : List Cond := .code yX0_commandsOfControl cX0_commandsOfControl 6 (some .int) :: ([.fieldLink RX0 33 "BloodCircuitChannels" "phase" "I", .fieldLink RX0 65 "BloodCircuitChannels" "alarms" "I", .fieldLink RX0 136 "BloodCircuitChannels" "fluidOffTicks" "I", .fieldLink RX0 77 "BloodCircuitChannels" "effective" "I", .fieldLink RX0 80 "BloodCircuitChannels" "accounted" "I", .methodLink RX0 147 yX0_isStrokeWanted, .instanceMethod yX0_isStrokeWanted, .selects RX0 yX0_isStrokeWanted yX0_isStrokeWanted, .initialized RX0, .code yX0_isStrokeWanted cX0_isStrokeWanted 3 (some .boolean), .fieldLink RX0 18 "BloodCircuitChannels" "parameters" "[I", .constantLong RX0 150 (1000), .methodLink RX0 152 yX0_ticksOfTreatment, .instanceMethod yX0_ticksOfTreatment, .selects RX0 yX0_ticksOfTreatment yX0_ticksOfTreatment, .code yX0_ticksOfTreatment cX0_ticksOfTreatment 1 (some .int)] ++ wsX00)
def wsX0_isRawDangerous : List Cond := .code yX0_isRawDangerous cX0_isRawDangerous 1 (some .boolean) :: ([.fieldLink RX0 24 "BloodCircuitChannels" "raw" "[I", .methodLink RX0 50 yX0_isOutside, .static yX0_isOutside, .initialized RX0, .code yX0_isOutside cX0_isOutside 3 (some .boolean)] ++ wsX00)
def wsX0_isStrokeTooMuch : List Cond := .code yX0_isStrokeTooMuch cX0_isStrokeTooMuch 1 (some .boolean) :: ([.fieldLink RX0 83 "BloodCircuitChannels" "strokes" "I", .fieldLink RX0 18 "BloodCircuitChannels" "parameters" "[I"] ++ wsX00)
def wsX0_afterProtection : List Cond := .code yX0_afterProtection cX0_afterProtection 3 (some .int) :: ([.fieldLink RX0 86 "BloodCircuitChannels" "trips" "I", .fieldLink RX0 33 "BloodCircuitChannels" "phase" "I", .fieldLink RX0 24 "BloodCircuitChannels" "raw" "[I", .methodLink RX0 124 yX0_isConnected, .instanceMethod yX0_isConnected, .selects RX0 yX0_isConnected yX0_isConnected, .initialized RX0, .code yX0_isConnected cX0_isConnected 1 (some .boolean), .methodLink RX0 155 yX0_isRawDangerous, .instanceMethod yX0_isRawDangerous, .selects RX0 yX0_isRawDangerous yX0_isRawDangerous, .code yX0_isRawDangerous cX0_isRawDangerous 1 (some .boolean), .methodLink RX0 50 yX0_isOutside, .static yX0_isOutside, .code yX0_isOutside cX0_isOutside 3 (some .boolean), .methodLink RX0 158 yX0_isStrokeTooMuch, .instanceMethod yX0_isStrokeTooMuch, .selects RX0 yX0_isStrokeTooMuch yX0_isStrokeTooMuch, .code yX0_isStrokeTooMuch cX0_isStrokeTooMuch 1 (some .boolean), .fieldLink RX0 83 "BloodCircuitChannels" "strokes" "I", .fieldLink RX0 18 "BloodCircuitChannels" "parameters" "[I"] ++ wsX00)
def wsX0_countTowardsEnd : List Cond := .code yX0_countTowardsEnd cX0_countTowardsEnd 2 none :: ([.fieldLink RX0 33 "BloodCircuitChannels" "phase" "I", .fieldLink RX0 74 "BloodCircuitChannels" "outputs" "I", .fieldLink RX0 89 "BloodCircuitChannels" "counted" "I", .fieldLink RX0 77 "BloodCircuitChannels" "effective" "I", .methodLink RX0 152 yX0_ticksOfTreatment, .instanceMethod yX0_ticksOfTreatment, .selects RX0 yX0_ticksOfTreatment yX0_ticksOfTreatment, .initialized RX0, .code yX0_ticksOfTreatment cX0_ticksOfTreatment 1 (some .int), .fieldLink RX0 18 "BloodCircuitChannels" "parameters" "[I", .methodLink RX0 61 yX0_beginPhase, .instanceMethod yX0_beginPhase, .selects RX0 yX0_beginPhase yX0_beginPhase, .code yX0_beginPhase cX0_beginPhase 2 none, .fieldLink RX0 80 "BloodCircuitChannels" "accounted" "I", .fieldLink RX0 83 "BloodCircuitChannels" "strokes" "I"] ++ wsX00)
def wsX0_makeTick_r1 : List Cond := [Cond.fieldLink RX0 65 "BloodCircuitChannels" "alarms" "I", Cond.fieldLink RX0 33 "BloodCircuitChannels" "phase" "I", Cond.fieldLink RX0 68 "BloodCircuitChannels" "conditions" "I", Cond.fieldLink RX0 37 "BloodCircuitChannels" "substituted" "I", Cond.fieldLink RX0 74 "BloodCircuitChannels" "outputs" "I", Cond.fieldLink RX0 83 "BloodCircuitChannels" "strokes" "I", Cond.methodLink RX0 98 yX0_conditionSensors, Cond.instanceMethod yX0_conditionSensors, Cond.selects RX0 yX0_conditionSensors yX0_conditionSensors, Cond.initialized RX0, Cond.code yX0_conditionSensors cX0_conditionSensors 2 none, Cond.fieldLink RX0 24 "BloodCircuitChannels" "raw" "[I", Cond.fieldLink RX0 118 "BloodCircuitChannels" "SENSOR_LEAST" "[I", Cond.fieldLink RX0 121 "BloodCircuitChannels" "SENSOR_GREATEST" "[I", Cond.fieldLink RX0 30 "BloodCircuitChannels" "implausibleTicks" "[I", Cond.fieldLink RX0 27 "BloodCircuitChannels" "conditioned" "[I", Cond.methodLink RX0 50 yX0_isOutside, Cond.static yX0_isOutside, Cond.code yX0_isOutside cX0_isOutside 3 (some .boolean), Cond.methodLink RX0 101 yX0_countTicksInARow, Cond.instanceMethod yX0_countTicksInARow, Cond.selects RX0 yX0_countTicksInARow yX0_countTicksInARow, Cond.code yX0_countTicksInARow cX0_countTicksInARow 5 none, Cond.fieldLink RX0 18 "BloodCircuitChannels" "parameters" "[I"]
def wsX0_makeTick_r2 : List Cond := [Cond.fieldLink RX0 130 "BloodCircuitChannels" "arterialOutTicks" "I", Cond.fieldLink RX0 133 "BloodCircuitChannels" "venousOutTicks" "I", Cond.fieldLink RX0 136 "BloodCircuitChannels" "fluidOffTicks" "I", Cond.fieldLink RX0 92 "BloodCircuitChannels" "steadyTicks" "I", Cond.methodLink RX0 124 yX0_isConnected, Cond.instanceMethod yX0_isConnected, Cond.selects RX0 yX0_isConnected yX0_isConnected, Cond.code yX0_isConnected cX0_isConnected 1 (some .boolean), Cond.methodLink RX0 127 yX0_isFluidOff, Cond.instanceMethod yX0_isFluidOff, Cond.selects RX0 yX0_isFluidOff yX0_isFluidOff, Cond.code yX0_isFluidOff cX0_isFluidOff 1 (some .boolean), Cond.methodLink RX0 139 Lib.Math.abs.name, Cond.static Lib.Math.abs.name, Cond.initialized "java/lang/Math", Cond.code Lib.Math.abs.name Lib.Math.abs.code 1 (some .int), Cond.methodLink RX0 104 yX0_conditionsNow, Cond.instanceMethod yX0_conditionsNow, Cond.selects RX0 yX0_conditionsNow yX0_conditionsNow, Cond.code yX0_conditionsNow cX0_conditionsNow 1 (some .int), Cond.methodLink RX0 144 yX0_isSomeSensorFaulty, Cond.instanceMethod yX0_isSomeSensorFaulty, Cond.selects RX0 yX0_isSomeSensorFaulty yX0_isSomeSensorFaulty, Cond.code yX0_isSomeSensorFaulty cX0_isSomeSensorFaulty 2 (some .boolean)]
def wsX0_makeTick_r3 : List Cond := [Cond.methodLink RX0 108 yX0_commandsOfControl, Cond.instanceMethod yX0_commandsOfControl, Cond.selects RX0 yX0_commandsOfControl yX0_commandsOfControl, Cond.code yX0_commandsOfControl cX0_commandsOfControl 6 (some .int), Cond.fieldLink RX0 77 "BloodCircuitChannels" "effective" "I", Cond.fieldLink RX0 80 "BloodCircuitChannels" "accounted" "I", Cond.methodLink RX0 147 yX0_isStrokeWanted, Cond.instanceMethod yX0_isStrokeWanted, Cond.selects RX0 yX0_isStrokeWanted yX0_isStrokeWanted, Cond.code yX0_isStrokeWanted cX0_isStrokeWanted 3 (some .boolean), Cond.constantLong RX0 150 (1000), Cond.methodLink RX0 152 yX0_ticksOfTreatment, Cond.instanceMethod yX0_ticksOfTreatment, Cond.selects RX0 yX0_ticksOfTreatment yX0_ticksOfTreatment, Cond.code yX0_ticksOfTreatment cX0_ticksOfTreatment 1 (some .int), Cond.methodLink RX0 111 yX0_afterProtection, Cond.instanceMethod yX0_afterProtection, Cond.selects RX0 yX0_afterProtection yX0_afterProtection, Cond.code yX0_afterProtection cX0_afterProtection 3 (some .int), Cond.fieldLink RX0 86 "BloodCircuitChannels" "trips" "I", Cond.methodLink RX0 155 yX0_isRawDangerous, Cond.instanceMethod yX0_isRawDangerous, Cond.selects RX0 yX0_isRawDangerous yX0_isRawDangerous, Cond.code yX0_isRawDangerous cX0_isRawDangerous 1 (some .boolean)]
def wsX0_makeTick_r4 : List Cond := [Cond.methodLink RX0 158 yX0_isStrokeTooMuch, Cond.instanceMethod yX0_isStrokeTooMuch, Cond.selects RX0 yX0_isStrokeTooMuch yX0_isStrokeTooMuch, Cond.code yX0_isStrokeTooMuch cX0_isStrokeTooMuch 1 (some .boolean), Cond.methodLink RX0 115 yX0_countTowardsEnd, Cond.instanceMethod yX0_countTowardsEnd, Cond.selects RX0 yX0_countTowardsEnd yX0_countTowardsEnd, Cond.code yX0_countTowardsEnd cX0_countTowardsEnd 2 none, Cond.fieldLink RX0 89 "BloodCircuitChannels" "counted" "I", Cond.methodLink RX0 61 yX0_beginPhase, Cond.instanceMethod yX0_beginPhase, Cond.selects RX0 yX0_beginPhase yX0_beginPhase, Cond.code yX0_beginPhase cX0_beginPhase 2 none]
def wsX0_makeTick : List Cond := .code yX0_makeTick cX0_makeTick 4 (some .boolean) :: ((wsX0_makeTick_r1 ++ (wsX0_makeTick_r2 ++ (wsX0_makeTick_r3 ++ wsX0_makeTick_r4))) ++ wsX00)
def wsX0_tick_r1 : List Cond := [Cond.methodLink RX0 50 yX0_isOutside, Cond.static yX0_isOutside, Cond.initialized RX0, Cond.code yX0_isOutside cX0_isOutside 3 (some .boolean), Cond.methodLink RX0 71 yX0_makeTick, Cond.instanceMethod yX0_makeTick, Cond.selects RX0 yX0_makeTick yX0_makeTick, Cond.code yX0_makeTick cX0_makeTick 4 (some .boolean), Cond.fieldLink RX0 65 "BloodCircuitChannels" "alarms" "I", Cond.fieldLink RX0 33 "BloodCircuitChannels" "phase" "I", Cond.fieldLink RX0 68 "BloodCircuitChannels" "conditions" "I", Cond.fieldLink RX0 37 "BloodCircuitChannels" "substituted" "I", Cond.fieldLink RX0 74 "BloodCircuitChannels" "outputs" "I", Cond.fieldLink RX0 83 "BloodCircuitChannels" "strokes" "I", Cond.methodLink RX0 98 yX0_conditionSensors, Cond.instanceMethod yX0_conditionSensors, Cond.selects RX0 yX0_conditionSensors yX0_conditionSensors, Cond.code yX0_conditionSensors cX0_conditionSensors 2 none, Cond.fieldLink RX0 24 "BloodCircuitChannels" "raw" "[I", Cond.fieldLink RX0 118 "BloodCircuitChannels" "SENSOR_LEAST" "[I", Cond.fieldLink RX0 121 "BloodCircuitChannels" "SENSOR_GREATEST" "[I", Cond.fieldLink RX0 30 "BloodCircuitChannels" "implausibleTicks" "[I", Cond.fieldLink RX0 27 "BloodCircuitChannels" "conditioned" "[I", Cond.methodLink RX0 101 yX0_countTicksInARow]
def wsX0_tick_r2 : List Cond := [Cond.instanceMethod yX0_countTicksInARow, Cond.selects RX0 yX0_countTicksInARow yX0_countTicksInARow, Cond.code yX0_countTicksInARow cX0_countTicksInARow 5 none, Cond.fieldLink RX0 18 "BloodCircuitChannels" "parameters" "[I", Cond.fieldLink RX0 130 "BloodCircuitChannels" "arterialOutTicks" "I", Cond.fieldLink RX0 133 "BloodCircuitChannels" "venousOutTicks" "I", Cond.fieldLink RX0 136 "BloodCircuitChannels" "fluidOffTicks" "I", Cond.fieldLink RX0 92 "BloodCircuitChannels" "steadyTicks" "I", Cond.methodLink RX0 124 yX0_isConnected, Cond.instanceMethod yX0_isConnected, Cond.selects RX0 yX0_isConnected yX0_isConnected, Cond.code yX0_isConnected cX0_isConnected 1 (some .boolean), Cond.methodLink RX0 127 yX0_isFluidOff, Cond.instanceMethod yX0_isFluidOff, Cond.selects RX0 yX0_isFluidOff yX0_isFluidOff, Cond.code yX0_isFluidOff cX0_isFluidOff 1 (some .boolean), Cond.methodLink RX0 139 Lib.Math.abs.name, Cond.static Lib.Math.abs.name, Cond.initialized "java/lang/Math", Cond.code Lib.Math.abs.name Lib.Math.abs.code 1 (some .int), Cond.methodLink RX0 104 yX0_conditionsNow, Cond.instanceMethod yX0_conditionsNow, Cond.selects RX0 yX0_conditionsNow yX0_conditionsNow, Cond.code yX0_conditionsNow cX0_conditionsNow 1 (some .int)]
def wsX0_tick_r3 : List Cond := [Cond.methodLink RX0 144 yX0_isSomeSensorFaulty, Cond.instanceMethod yX0_isSomeSensorFaulty, Cond.selects RX0 yX0_isSomeSensorFaulty yX0_isSomeSensorFaulty, Cond.code yX0_isSomeSensorFaulty cX0_isSomeSensorFaulty 2 (some .boolean), Cond.methodLink RX0 108 yX0_commandsOfControl, Cond.instanceMethod yX0_commandsOfControl, Cond.selects RX0 yX0_commandsOfControl yX0_commandsOfControl, Cond.code yX0_commandsOfControl cX0_commandsOfControl 6 (some .int), Cond.fieldLink RX0 77 "BloodCircuitChannels" "effective" "I", Cond.fieldLink RX0 80 "BloodCircuitChannels" "accounted" "I", Cond.methodLink RX0 147 yX0_isStrokeWanted, Cond.instanceMethod yX0_isStrokeWanted, Cond.selects RX0 yX0_isStrokeWanted yX0_isStrokeWanted, Cond.code yX0_isStrokeWanted cX0_isStrokeWanted 3 (some .boolean), Cond.constantLong RX0 150 (1000), Cond.methodLink RX0 152 yX0_ticksOfTreatment, Cond.instanceMethod yX0_ticksOfTreatment, Cond.selects RX0 yX0_ticksOfTreatment yX0_ticksOfTreatment, Cond.code yX0_ticksOfTreatment cX0_ticksOfTreatment 1 (some .int), Cond.methodLink RX0 111 yX0_afterProtection, Cond.instanceMethod yX0_afterProtection, Cond.selects RX0 yX0_afterProtection yX0_afterProtection, Cond.code yX0_afterProtection cX0_afterProtection 3 (some .int), Cond.fieldLink RX0 86 "BloodCircuitChannels" "trips" "I"]
def wsX0_tick_r4 : List Cond := [Cond.methodLink RX0 155 yX0_isRawDangerous, Cond.instanceMethod yX0_isRawDangerous, Cond.selects RX0 yX0_isRawDangerous yX0_isRawDangerous, Cond.code yX0_isRawDangerous cX0_isRawDangerous 1 (some .boolean), Cond.methodLink RX0 158 yX0_isStrokeTooMuch, Cond.instanceMethod yX0_isStrokeTooMuch, Cond.selects RX0 yX0_isStrokeTooMuch yX0_isStrokeTooMuch, Cond.code yX0_isStrokeTooMuch cX0_isStrokeTooMuch 1 (some .boolean), Cond.methodLink RX0 115 yX0_countTowardsEnd, Cond.instanceMethod yX0_countTowardsEnd, Cond.selects RX0 yX0_countTowardsEnd yX0_countTowardsEnd, Cond.code yX0_countTowardsEnd cX0_countTowardsEnd 2 none, Cond.fieldLink RX0 89 "BloodCircuitChannels" "counted" "I", Cond.methodLink RX0 61 yX0_beginPhase, Cond.instanceMethod yX0_beginPhase, Cond.selects RX0 yX0_beginPhase yX0_beginPhase, Cond.code yX0_beginPhase cX0_beginPhase 2 none]
def wsX0_tick : List Cond := .code yX0_tick cX0_tick 3 (some .int) :: ((wsX0_tick_r1 ++ (wsX0_tick_r2 ++ (wsX0_tick_r3 ++ wsX0_tick_r4))) ++ wsX00)
def wsX0_phase : List Cond := .code yX0_phase cX0_phase 1 (some .int) :: ([.fieldLink RX0 33 "BloodCircuitChannels" "phase" "I"] ++ wsX00)
def wsX0_alarms : List Cond := .code yX0_alarms cX0_alarms 1 (some .int) :: ([.fieldLink RX0 65 "BloodCircuitChannels" "alarms" "I"] ++ wsX00)
def wsX0_conditions : List Cond := .code yX0_conditions cX0_conditions 1 (some .int) :: ([.fieldLink RX0 68 "BloodCircuitChannels" "conditions" "I"] ++ wsX00)
def wsX0_outputs : List Cond := .code yX0_outputs cX0_outputs 1 (some .int) :: ([.fieldLink RX0 74 "BloodCircuitChannels" "outputs" "I"] ++ wsX00)
def wsX0_effective : List Cond := .code yX0_effective cX0_effective 1 (some .int) :: ([.fieldLink RX0 77 "BloodCircuitChannels" "effective" "I"] ++ wsX00)
def wsX0_accounted : List Cond := .code yX0_accounted cX0_accounted 1 (some .int) :: ([.fieldLink RX0 80 "BloodCircuitChannels" "accounted" "I"] ++ wsX00)
def wsX0_strokes : List Cond := .code yX0_strokes cX0_strokes 1 (some .int) :: ([.fieldLink RX0 83 "BloodCircuitChannels" "strokes" "I"] ++ wsX00)
def wsX0_trips : List Cond := .code yX0_trips cX0_trips 1 (some .int) :: ([.fieldLink RX0 86 "BloodCircuitChannels" "trips" "I"] ++ wsX00)
def wsX0_counted : List Cond := .code yX0_counted cX0_counted 1 (some .int) :: ([.fieldLink RX0 89 "BloodCircuitChannels" "counted" "I"] ++ wsX00)
def wsJ9_abs_0f7a4 : List Cond := .code yJ9_abs_0f7a4 cJ9_abs_0f7a4 1 (some .int) :: ([])
def wsL_law_r1 : List Cond := [Cond.classLink RL 7 RX0, Cond.instantiable RX0 18, Cond.initialized RX0, Cond.methodLink RL 9 yX0_init, Cond.instanceMethod yX0_init, Cond.code yX0_init cX0_init 1 none, Cond.methodLink RX0 3 objectInit, Cond.instanceMethod objectInit, Cond.code objectInit ⟨#[0xb1]⟩ 1 none, Cond.fieldLink RX0 9 "BloodCircuitChannels" "PARAMETER_AT_FIRST" "[I", Cond.methodLink RX0 13 ⟨"[I", "clone", "()Ljava/lang/Object;"⟩, Cond.sameMethod "[I" "java/lang/Object" "clone" "()Ljava/lang/Object;", Cond.native ⟨"java/lang/Object", "clone", "()Ljava/lang/Object;"⟩, Cond.instanceMethod ⟨"java/lang/Object", "clone", "()Ljava/lang/Object;"⟩, Cond.selects "[I" ⟨"[I", "clone", "()Ljava/lang/Object;"⟩ ⟨"java/lang/Object", "clone", "()Ljava/lang/Object;"⟩, Cond.classLink RX0 14 "[I", Cond.fieldLink RX0 18 "BloodCircuitChannels" "parameters" "[I", Cond.fieldLink RX0 21 "BloodCircuitChannels" "SENSOR_AT_FIRST" "[I", Cond.fieldLink RX0 24 "BloodCircuitChannels" "raw" "[I", Cond.fieldLink RX0 27 "BloodCircuitChannels" "conditioned" "[I", Cond.arrayClass .int, Cond.fieldLink RX0 30 "BloodCircuitChannels" "implausibleTicks" "[I", Cond.fieldLink RX0 33 "BloodCircuitChannels" "phase" "I", Cond.fieldLink RX0 37 "BloodCircuitChannels" "substituted" "I"]
def wsL_law_r2 : List Cond := [Cond.methodLink RL 13 yX0_set, Cond.instanceMethod yX0_set, Cond.selects RX0 yX0_set yX0_set, Cond.code yX0_set cX0_set 3 (some .boolean), Cond.fieldLink RX0 44 "BloodCircuitChannels" "PARAMETER_LEAST" "[I", Cond.fieldLink RX0 47 "BloodCircuitChannels" "PARAMETER_GREATEST" "[I", Cond.methodLink RX0 40 yX0_isParameter, Cond.static yX0_isParameter, Cond.code yX0_isParameter cX0_isParameter 1 (some .boolean), Cond.methodLink RX0 50 yX0_isOutside, Cond.static yX0_isOutside, Cond.code yX0_isOutside cX0_isOutside 3 (some .boolean), Cond.methodLink RL 18 yX0_parameter, Cond.instanceMethod yX0_parameter, Cond.selects RX0 yX0_parameter yX0_parameter, Cond.code yX0_parameter cX0_parameter 2 (some .int), Cond.methodLink RL 23 yX0_sense, Cond.instanceMethod yX0_sense, Cond.selects RX0 yX0_sense yX0_sense, Cond.code yX0_sense cX0_sense 3 (some .boolean), Cond.methodLink RX0 54 yX0_isSensor, Cond.static yX0_isSensor, Cond.code yX0_isSensor cX0_isSensor 1 (some .boolean), Cond.methodLink RL 27 yX0_conditioned]
def wsL_law_r3 : List Cond := [Cond.instanceMethod yX0_conditioned, Cond.selects RX0 yX0_conditioned yX0_conditioned, Cond.code yX0_conditioned cX0_conditioned 2 (some .int), Cond.methodLink RL 31 yX0_faulty, Cond.instanceMethod yX0_faulty, Cond.selects RX0 yX0_faulty yX0_faulty, Cond.code yX0_faulty cX0_faulty 2 (some .boolean), Cond.methodLink RL 36 yX0_next, Cond.instanceMethod yX0_next, Cond.selects RX0 yX0_next yX0_next, Cond.code yX0_next cX0_next 1 (some .int), Cond.methodLink RX0 57 yX0_mayLeavePhase, Cond.instanceMethod yX0_mayLeavePhase, Cond.selects RX0 yX0_mayLeavePhase yX0_mayLeavePhase, Cond.code yX0_mayLeavePhase cX0_mayLeavePhase 1 (some .boolean), Cond.fieldLink RX0 92 "BloodCircuitChannels" "steadyTicks" "I", Cond.fieldLink RX0 65 "BloodCircuitChannels" "alarms" "I", Cond.fieldLink RX0 89 "BloodCircuitChannels" "counted" "I", Cond.methodLink RX0 95 yX0_areConsistent, Cond.instanceMethod yX0_areConsistent, Cond.selects RX0 yX0_areConsistent yX0_areConsistent, Cond.code yX0_areConsistent cX0_areConsistent 1 (some .boolean), Cond.methodLink RX0 61 yX0_beginPhase, Cond.instanceMethod yX0_beginPhase]
def wsL_law_r4 : List Cond := [Cond.selects RX0 yX0_beginPhase yX0_beginPhase, Cond.code yX0_beginPhase cX0_beginPhase 2 none, Cond.fieldLink RX0 77 "BloodCircuitChannels" "effective" "I", Cond.fieldLink RX0 80 "BloodCircuitChannels" "accounted" "I", Cond.fieldLink RX0 83 "BloodCircuitChannels" "strokes" "I", Cond.methodLink RL 41 yX0_acknowledge, Cond.instanceMethod yX0_acknowledge, Cond.selects RX0 yX0_acknowledge yX0_acknowledge, Cond.code yX0_acknowledge cX0_acknowledge 1 (some .int), Cond.fieldLink RX0 68 "BloodCircuitChannels" "conditions" "I", Cond.methodLink RL 45 yX0_substitute, Cond.instanceMethod yX0_substitute, Cond.selects RX0 yX0_substitute yX0_substitute, Cond.code yX0_substitute cX0_substitute 2 (some .boolean), Cond.methodLink RL 49 yX0_tick, Cond.instanceMethod yX0_tick, Cond.selects RX0 yX0_tick yX0_tick, Cond.code yX0_tick cX0_tick 3 (some .int), Cond.methodLink RX0 71 yX0_makeTick, Cond.instanceMethod yX0_makeTick, Cond.selects RX0 yX0_makeTick yX0_makeTick, Cond.code yX0_makeTick cX0_makeTick 4 (some .boolean), Cond.fieldLink RX0 74 "BloodCircuitChannels" "outputs" "I", Cond.methodLink RX0 98 yX0_conditionSensors]
def wsL_law_r5 : List Cond := [Cond.instanceMethod yX0_conditionSensors, Cond.selects RX0 yX0_conditionSensors yX0_conditionSensors, Cond.code yX0_conditionSensors cX0_conditionSensors 2 none, Cond.fieldLink RX0 118 "BloodCircuitChannels" "SENSOR_LEAST" "[I", Cond.fieldLink RX0 121 "BloodCircuitChannels" "SENSOR_GREATEST" "[I", Cond.methodLink RX0 101 yX0_countTicksInARow, Cond.instanceMethod yX0_countTicksInARow, Cond.selects RX0 yX0_countTicksInARow yX0_countTicksInARow, Cond.code yX0_countTicksInARow cX0_countTicksInARow 5 none, Cond.fieldLink RX0 130 "BloodCircuitChannels" "arterialOutTicks" "I", Cond.fieldLink RX0 133 "BloodCircuitChannels" "venousOutTicks" "I", Cond.fieldLink RX0 136 "BloodCircuitChannels" "fluidOffTicks" "I", Cond.methodLink RX0 124 yX0_isConnected, Cond.instanceMethod yX0_isConnected, Cond.selects RX0 yX0_isConnected yX0_isConnected, Cond.code yX0_isConnected cX0_isConnected 1 (some .boolean), Cond.methodLink RX0 127 yX0_isFluidOff, Cond.instanceMethod yX0_isFluidOff, Cond.selects RX0 yX0_isFluidOff yX0_isFluidOff, Cond.code yX0_isFluidOff cX0_isFluidOff 1 (some .boolean), Cond.methodLink RX0 139 Lib.Math.abs.name, Cond.static Lib.Math.abs.name, Cond.initialized "java/lang/Math", Cond.code Lib.Math.abs.name Lib.Math.abs.code 1 (some .int)]
def wsL_law_r6 : List Cond := [Cond.methodLink RX0 104 yX0_conditionsNow, Cond.instanceMethod yX0_conditionsNow, Cond.selects RX0 yX0_conditionsNow yX0_conditionsNow, Cond.code yX0_conditionsNow cX0_conditionsNow 1 (some .int), Cond.methodLink RX0 144 yX0_isSomeSensorFaulty, Cond.instanceMethod yX0_isSomeSensorFaulty, Cond.selects RX0 yX0_isSomeSensorFaulty yX0_isSomeSensorFaulty, Cond.code yX0_isSomeSensorFaulty cX0_isSomeSensorFaulty 2 (some .boolean), Cond.methodLink RX0 108 yX0_commandsOfControl, Cond.instanceMethod yX0_commandsOfControl, Cond.selects RX0 yX0_commandsOfControl yX0_commandsOfControl, Cond.code yX0_commandsOfControl cX0_commandsOfControl 6 (some .int), Cond.methodLink RX0 147 yX0_isStrokeWanted, Cond.instanceMethod yX0_isStrokeWanted, Cond.selects RX0 yX0_isStrokeWanted yX0_isStrokeWanted, Cond.code yX0_isStrokeWanted cX0_isStrokeWanted 3 (some .boolean), Cond.constantLong RX0 150 (1000), Cond.methodLink RX0 152 yX0_ticksOfTreatment, Cond.instanceMethod yX0_ticksOfTreatment, Cond.selects RX0 yX0_ticksOfTreatment yX0_ticksOfTreatment, Cond.code yX0_ticksOfTreatment cX0_ticksOfTreatment 1 (some .int), Cond.methodLink RX0 111 yX0_afterProtection, Cond.instanceMethod yX0_afterProtection, Cond.selects RX0 yX0_afterProtection yX0_afterProtection]
def wsL_law_r7 : List Cond := [Cond.code yX0_afterProtection cX0_afterProtection 3 (some .int), Cond.fieldLink RX0 86 "BloodCircuitChannels" "trips" "I", Cond.methodLink RX0 155 yX0_isRawDangerous, Cond.instanceMethod yX0_isRawDangerous, Cond.selects RX0 yX0_isRawDangerous yX0_isRawDangerous, Cond.code yX0_isRawDangerous cX0_isRawDangerous 1 (some .boolean), Cond.methodLink RX0 158 yX0_isStrokeTooMuch, Cond.instanceMethod yX0_isStrokeTooMuch, Cond.selects RX0 yX0_isStrokeTooMuch yX0_isStrokeTooMuch, Cond.code yX0_isStrokeTooMuch cX0_isStrokeTooMuch 1 (some .boolean), Cond.methodLink RX0 115 yX0_countTowardsEnd, Cond.instanceMethod yX0_countTowardsEnd, Cond.selects RX0 yX0_countTowardsEnd yX0_countTowardsEnd, Cond.code yX0_countTowardsEnd cX0_countTowardsEnd 2 none, Cond.methodLink RL 53 yX0_phase, Cond.instanceMethod yX0_phase, Cond.selects RX0 yX0_phase yX0_phase, Cond.code yX0_phase cX0_phase 1 (some .int), Cond.methodLink RL 57 yX0_alarms, Cond.instanceMethod yX0_alarms, Cond.selects RX0 yX0_alarms yX0_alarms, Cond.code yX0_alarms cX0_alarms 1 (some .int), Cond.methodLink RL 61 yX0_conditions, Cond.instanceMethod yX0_conditions]
def wsL_law_r8 : List Cond := [Cond.selects RX0 yX0_conditions yX0_conditions, Cond.code yX0_conditions cX0_conditions 1 (some .int), Cond.methodLink RL 65 yX0_outputs, Cond.instanceMethod yX0_outputs, Cond.selects RX0 yX0_outputs yX0_outputs, Cond.code yX0_outputs cX0_outputs 1 (some .int), Cond.methodLink RL 69 yX0_effective, Cond.instanceMethod yX0_effective, Cond.selects RX0 yX0_effective yX0_effective, Cond.code yX0_effective cX0_effective 1 (some .int), Cond.methodLink RL 73 yX0_accounted, Cond.instanceMethod yX0_accounted, Cond.selects RX0 yX0_accounted yX0_accounted, Cond.code yX0_accounted cX0_accounted 1 (some .int), Cond.methodLink RL 77 yX0_strokes, Cond.instanceMethod yX0_strokes, Cond.selects RX0 yX0_strokes yX0_strokes, Cond.code yX0_strokes cX0_strokes 1 (some .int), Cond.methodLink RL 81 yX0_trips, Cond.instanceMethod yX0_trips, Cond.selects RX0 yX0_trips yX0_trips, Cond.code yX0_trips cX0_trips 1 (some .int), Cond.methodLink RL 85 yX0_counted, Cond.instanceMethod yX0_counted]
def wsL_law_r9 : List Cond := [Cond.selects RX0 yX0_counted yX0_counted, Cond.code yX0_counted cX0_counted 1 (some .int)]
def wsL_law : List Cond := (wsL_law_r1 ++ (wsL_law_r2 ++ (wsL_law_r3 ++ (wsL_law_r4 ++ (wsL_law_r5 ++ (wsL_law_r6 ++ (wsL_law_r7 ++ (wsL_law_r8 ++ wsL_law_r9)))))))) ++ wsX00 ++ ([] : List Cond)
set_option maxRecDepth 20000 in
theorem wsL_law_in : ∀ w ∈ wsL_law, w ∈ lw_tbl := fun w h => (goodIn_p wsL_law [36, 39, 110, 113, 120, 124, 128, 131, 135, 139, 143, 147, 151, 155, 159, 163, 167, 171, 175, 183, 187, 191, 194, 198, 202, 206, 210, 215, 219, 223, 227, 231, 235, 239, 243, 247, 251, 255, 259, 263, 267] (by decide +kernel) (by decide +kernel) w h).1
theorem inlX0 : ∀ w ∈ wsX00, w ∈ wsL_law := fun _ h => List.mem_append_left _ (List.mem_append_right _ h)
theorem inX0 : ∀ w ∈ wsX00, w ∈ lw_tbl := fun w h => wsL_law_in w (inlX0 w h)
theorem inX1 : ∀ w ∈ wsX10, w ∈ lw_tbl := by decide +kernel
theorem inJx8e188 : ∀ w ∈ wsJx8e1880, w ∈ lw_tbl := by decide +kernel
theorem inJ9 : ∀ w ∈ wsJ90, w ∈ lw_tbl := by decide +kernel
theorem dX0_init_0 : decode cX0_init 0 = .ok (.aload_n 0, 1) := by decide +kernel
theorem dX0_init_1 : decode cX0_init 1 = .ok (.invokespecial 3, 3) := by decide +kernel
theorem dX0_init_4 : decode cX0_init 4 = .ok (.aload_n 0, 1) := by decide +kernel
theorem dX0_init_5 : decode cX0_init 5 = .ok (.getstatic 9, 3) := by decide +kernel
theorem dX0_init_8 : decode cX0_init 8 = .ok (.invokevirtual 13, 3) := by decide +kernel
theorem dX0_init_11 : decode cX0_init 11 = .ok (.checkcast 14, 3) := by decide +kernel
theorem dX0_init_14 : decode cX0_init 14 = .ok (.putfield 18, 3) := by decide +kernel
theorem dX0_init_17 : decode cX0_init 17 = .ok (.aload_n 0, 1) := by decide +kernel
theorem dX0_init_18 : decode cX0_init 18 = .ok (.getstatic 21, 3) := by decide +kernel
theorem dX0_init_21 : decode cX0_init 21 = .ok (.invokevirtual 13, 3) := by decide +kernel
theorem dX0_init_24 : decode cX0_init 24 = .ok (.checkcast 14, 3) := by decide +kernel
theorem dX0_init_27 : decode cX0_init 27 = .ok (.putfield 24, 3) := by decide +kernel
theorem dX0_init_30 : decode cX0_init 30 = .ok (.aload_n 0, 1) := by decide +kernel
theorem dX0_init_31 : decode cX0_init 31 = .ok (.getstatic 21, 3) := by decide +kernel
theorem dX0_init_34 : decode cX0_init 34 = .ok (.invokevirtual 13, 3) := by decide +kernel
theorem dX0_init_37 : decode cX0_init 37 = .ok (.checkcast 14, 3) := by decide +kernel
theorem dX0_init_40 : decode cX0_init 40 = .ok (.putfield 27, 3) := by decide +kernel
theorem dX0_init_43 : decode cX0_init 43 = .ok (.aload_n 0, 1) := by decide +kernel
theorem dX0_init_44 : decode cX0_init 44 = .ok (.bipush 6, 2) := by decide +kernel
theorem dX0_init_46 : decode cX0_init 46 = .ok (.newarray .int, 2) := by decide +kernel
theorem dX0_init_48 : decode cX0_init 48 = .ok (.putfield 30, 3) := by decide +kernel
theorem dX0_init_51 : decode cX0_init 51 = .ok (.aload_n 0, 1) := by decide +kernel
theorem dX0_init_52 : decode cX0_init 52 = .ok (.iconst 0, 1) := by decide +kernel
theorem dX0_init_53 : decode cX0_init 53 = .ok (.putfield 33, 3) := by decide +kernel
theorem dX0_init_56 : decode cX0_init 56 = .ok (.aload_n 0, 1) := by decide +kernel
theorem dX0_init_57 : decode cX0_init 57 = .ok (.iconst (-1), 1) := by decide +kernel
theorem dX0_init_58 : decode cX0_init 58 = .ok (.putfield 37, 3) := by decide +kernel
theorem dX0_init_61 : decode cX0_init 61 = .ok (.return_, 1) := by decide +kernel
set_option maxRecDepth 20000 in
theorem ggX0_set_X0_isParameter : GoodIn wsX0_set wsX0_isParameter := goodIn_r _ [8] (by decide +kernel) (by decide +kernel)
set_option maxRecDepth 20000 in
theorem gX0_set_X0_isParameter : GoodIn wsX0_set (va_wsS RX0 40 yX0_isParameter wsX0_isParameter) := goodIn_app (goodIn_of _ (by decide +kernel)) ggX0_set_X0_isParameter
set_option maxRecDepth 20000 in
theorem ggX0_set_X0_isOutside : GoodIn wsX0_set wsX0_isOutside := goodIn_r _ [11] (by decide +kernel) (by decide +kernel)
set_option maxRecDepth 20000 in
theorem gX0_set_X0_isOutside : GoodIn wsX0_set (va_wsS RX0 50 yX0_isOutside wsX0_isOutside) := goodIn_app (goodIn_of _ (by decide +kernel)) ggX0_set_X0_isOutside
theorem dX0_set_0 : decode cX0_set 0 = .ok (.iload_n 1, 1) := by decide +kernel
theorem dX0_set_1 : decode cX0_set 1 = .ok (.invokestatic 40, 3) := by decide +kernel
theorem dX0_set_4 : decode cX0_set 4 = .ok (.ifCond .eq 27, 3) := by decide +kernel
theorem dX0_set_7 : decode cX0_set 7 = .ok (.aload_n 0, 1) := by decide +kernel
theorem dX0_set_8 : decode cX0_set 8 = .ok (.getfield 33, 3) := by decide +kernel
theorem dX0_set_11 : decode cX0_set 11 = .ok (.ifCond .ne 20, 3) := by decide +kernel
theorem dX0_set_14 : decode cX0_set 14 = .ok (.iload_n 2, 1) := by decide +kernel
theorem dX0_set_15 : decode cX0_set 15 = .ok (.getstatic 44, 3) := by decide +kernel
theorem dX0_set_18 : decode cX0_set 18 = .ok (.iload_n 1, 1) := by decide +kernel
theorem dX0_set_19 : decode cX0_set 19 = .ok (.iaload, 1) := by decide +kernel
theorem dX0_set_20 : decode cX0_set 20 = .ok (.getstatic 47, 3) := by decide +kernel
theorem dX0_set_23 : decode cX0_set 23 = .ok (.iload_n 1, 1) := by decide +kernel
theorem dX0_set_24 : decode cX0_set 24 = .ok (.iaload, 1) := by decide +kernel
theorem dX0_set_25 : decode cX0_set 25 = .ok (.invokestatic 50, 3) := by decide +kernel
theorem dX0_set_28 : decode cX0_set 28 = .ok (.ifCond .eq 5, 3) := by decide +kernel
theorem dX0_set_31 : decode cX0_set 31 = .ok (.iconst 0, 1) := by decide +kernel
theorem dX0_set_32 : decode cX0_set 32 = .ok (.ireturn, 1) := by decide +kernel
theorem dX0_set_33 : decode cX0_set 33 = .ok (.aload_n 0, 1) := by decide +kernel
theorem dX0_set_34 : decode cX0_set 34 = .ok (.getfield 18, 3) := by decide +kernel
theorem dX0_set_37 : decode cX0_set 37 = .ok (.iload_n 1, 1) := by decide +kernel
theorem dX0_set_38 : decode cX0_set 38 = .ok (.iload_n 2, 1) := by decide +kernel
theorem dX0_set_39 : decode cX0_set 39 = .ok (.iastore, 1) := by decide +kernel
theorem dX0_set_40 : decode cX0_set 40 = .ok (.iconst 1, 1) := by decide +kernel
theorem dX0_set_41 : decode cX0_set 41 = .ok (.ireturn, 1) := by decide +kernel
set_option maxRecDepth 20000 in
theorem ggX0_parameter_X0_isParameter : GoodIn wsX0_parameter wsX0_isParameter := goodIn_r _ [5] (by decide +kernel) (by decide +kernel)
set_option maxRecDepth 20000 in
theorem gX0_parameter_X0_isParameter : GoodIn wsX0_parameter (va_wsS RX0 40 yX0_isParameter wsX0_isParameter) := goodIn_app (goodIn_of _ (by decide +kernel)) ggX0_parameter_X0_isParameter
theorem dX0_parameter_0 : decode cX0_parameter 0 = .ok (.iload_n 1, 1) := by decide +kernel
theorem dX0_parameter_1 : decode cX0_parameter 1 = .ok (.invokestatic 40, 3) := by decide +kernel
theorem dX0_parameter_4 : decode cX0_parameter 4 = .ok (.ifCond .eq 12, 3) := by decide +kernel
theorem dX0_parameter_7 : decode cX0_parameter 7 = .ok (.aload_n 0, 1) := by decide +kernel
theorem dX0_parameter_8 : decode cX0_parameter 8 = .ok (.getfield 18, 3) := by decide +kernel
theorem dX0_parameter_11 : decode cX0_parameter 11 = .ok (.iload_n 1, 1) := by decide +kernel
theorem dX0_parameter_12 : decode cX0_parameter 12 = .ok (.iaload, 1) := by decide +kernel
theorem dX0_parameter_13 : decode cX0_parameter 13 = .ok (.goto 4, 3) := by decide +kernel
theorem dX0_parameter_16 : decode cX0_parameter 16 = .ok (.iconst 0, 1) := by decide +kernel
theorem dX0_parameter_17 : decode cX0_parameter 17 = .ok (.ireturn, 1) := by decide +kernel
set_option maxRecDepth 20000 in
theorem ggX0_sense_X0_isSensor : GoodIn wsX0_sense wsX0_isSensor := goodIn_r _ [5] (by decide +kernel) (by decide +kernel)
set_option maxRecDepth 20000 in
theorem gX0_sense_X0_isSensor : GoodIn wsX0_sense (va_wsS RX0 54 yX0_isSensor wsX0_isSensor) := goodIn_app (goodIn_of _ (by decide +kernel)) ggX0_sense_X0_isSensor
theorem dX0_sense_0 : decode cX0_sense 0 = .ok (.iload_n 1, 1) := by decide +kernel
theorem dX0_sense_1 : decode cX0_sense 1 = .ok (.invokestatic 54, 3) := by decide +kernel
theorem dX0_sense_4 : decode cX0_sense 4 = .ok (.ifCond .ne 5, 3) := by decide +kernel
theorem dX0_sense_7 : decode cX0_sense 7 = .ok (.iconst 0, 1) := by decide +kernel
theorem dX0_sense_8 : decode cX0_sense 8 = .ok (.ireturn, 1) := by decide +kernel
theorem dX0_sense_9 : decode cX0_sense 9 = .ok (.aload_n 0, 1) := by decide +kernel
theorem dX0_sense_10 : decode cX0_sense 10 = .ok (.getfield 24, 3) := by decide +kernel
theorem dX0_sense_13 : decode cX0_sense 13 = .ok (.iload_n 1, 1) := by decide +kernel
theorem dX0_sense_14 : decode cX0_sense 14 = .ok (.iload_n 2, 1) := by decide +kernel
theorem dX0_sense_15 : decode cX0_sense 15 = .ok (.iastore, 1) := by decide +kernel
theorem dX0_sense_16 : decode cX0_sense 16 = .ok (.iconst 1, 1) := by decide +kernel
theorem dX0_sense_17 : decode cX0_sense 17 = .ok (.ireturn, 1) := by decide +kernel
set_option maxRecDepth 20000 in
theorem ggX0_conditioned_X0_isSensor : GoodIn wsX0_conditioned wsX0_isSensor := goodIn_r _ [5] (by decide +kernel) (by decide +kernel)
set_option maxRecDepth 20000 in
theorem gX0_conditioned_X0_isSensor : GoodIn wsX0_conditioned (va_wsS RX0 54 yX0_isSensor wsX0_isSensor) := goodIn_app (goodIn_of _ (by decide +kernel)) ggX0_conditioned_X0_isSensor
theorem dX0_conditioned_0 : decode cX0_conditioned 0 = .ok (.iload_n 1, 1) := by decide +kernel
theorem dX0_conditioned_1 : decode cX0_conditioned 1 = .ok (.invokestatic 54, 3) := by decide +kernel
theorem dX0_conditioned_4 : decode cX0_conditioned 4 = .ok (.ifCond .eq 12, 3) := by decide +kernel
theorem dX0_conditioned_7 : decode cX0_conditioned 7 = .ok (.aload_n 0, 1) := by decide +kernel
theorem dX0_conditioned_8 : decode cX0_conditioned 8 = .ok (.getfield 27, 3) := by decide +kernel
theorem dX0_conditioned_11 : decode cX0_conditioned 11 = .ok (.iload_n 1, 1) := by decide +kernel
theorem dX0_conditioned_12 : decode cX0_conditioned 12 = .ok (.iaload, 1) := by decide +kernel
theorem dX0_conditioned_13 : decode cX0_conditioned 13 = .ok (.goto 4, 3) := by decide +kernel
theorem dX0_conditioned_16 : decode cX0_conditioned 16 = .ok (.iconst 0, 1) := by decide +kernel
theorem dX0_conditioned_17 : decode cX0_conditioned 17 = .ok (.ireturn, 1) := by decide +kernel
set_option maxRecDepth 20000 in
theorem ggX0_faulty_X0_isSensor : GoodIn wsX0_faulty wsX0_isSensor := goodIn_r _ [5] (by decide +kernel) (by decide +kernel)
set_option maxRecDepth 20000 in
theorem gX0_faulty_X0_isSensor : GoodIn wsX0_faulty (va_wsS RX0 54 yX0_isSensor wsX0_isSensor) := goodIn_app (goodIn_of _ (by decide +kernel)) ggX0_faulty_X0_isSensor
theorem dX0_faulty_0 : decode cX0_faulty 0 = .ok (.iload_n 1, 1) := by decide +kernel
theorem dX0_faulty_1 : decode cX0_faulty 1 = .ok (.invokestatic 54, 3) := by decide +kernel
theorem dX0_faulty_4 : decode cX0_faulty 4 = .ok (.ifCond .eq 17, 3) := by decide +kernel
theorem dX0_faulty_7 : decode cX0_faulty 7 = .ok (.aload_n 0, 1) := by decide +kernel
theorem dX0_faulty_8 : decode cX0_faulty 8 = .ok (.getfield 30, 3) := by decide +kernel
theorem dX0_faulty_11 : decode cX0_faulty 11 = .ok (.iload_n 1, 1) := by decide +kernel
theorem dX0_faulty_12 : decode cX0_faulty 12 = .ok (.iaload, 1) := by decide +kernel
theorem dX0_faulty_13 : decode cX0_faulty 13 = .ok (.iconst 3, 1) := by decide +kernel
theorem dX0_faulty_14 : decode cX0_faulty 14 = .ok (.if_icmp .lt 7, 3) := by decide +kernel
theorem dX0_faulty_17 : decode cX0_faulty 17 = .ok (.iconst 1, 1) := by decide +kernel
theorem dX0_faulty_18 : decode cX0_faulty 18 = .ok (.goto 4, 3) := by decide +kernel
theorem dX0_faulty_21 : decode cX0_faulty 21 = .ok (.iconst 0, 1) := by decide +kernel
theorem dX0_faulty_22 : decode cX0_faulty 22 = .ok (.ireturn, 1) := by decide +kernel
set_option maxRecDepth 20000 in
theorem ggX0_next_X0_mayLeavePhase : GoodIn wsX0_next wsX0_mayLeavePhase := goodIn_r _ [6, 1, 7, 8, 9, 10, 11, 12, 5, 13, 14, 22, 23, 24, 25, 26, 27, 28, 29, 30, 31, 32, 33, 34, 35, 36, 37, 38, 39] (by decide +kernel) (by decide +kernel)
set_option maxRecDepth 20000 in
theorem gX0_next_X0_mayLeavePhase : GoodIn wsX0_next (wsV RX0 57 RX0 yX0_mayLeavePhase wsX0_mayLeavePhase) := goodIn_app (goodIn_of _ (by decide +kernel)) ggX0_next_X0_mayLeavePhase
set_option maxRecDepth 20000 in
theorem ggX0_next_X0_beginPhase : GoodIn wsX0_next wsX0_beginPhase := goodIn_r _ [18, 1, 9, 19, 20, 21, 22, 23, 24, 25, 26, 27, 28, 29, 30, 31, 32, 33, 34, 35, 36, 37, 38, 39] (by decide +kernel) (by decide +kernel)
set_option maxRecDepth 20000 in
theorem gX0_next_X0_beginPhase : GoodIn wsX0_next (wsV RX0 61 RX0 yX0_beginPhase wsX0_beginPhase) := goodIn_app (goodIn_of _ (by decide +kernel)) ggX0_next_X0_beginPhase
theorem dX0_next_0 : decode cX0_next 0 = .ok (.aload_n 0, 1) := by decide +kernel
theorem dX0_next_1 : decode cX0_next 1 = .ok (.invokevirtual 57, 3) := by decide +kernel
theorem dX0_next_4 : decode cX0_next 4 = .ok (.ifCond .ne 5, 3) := by decide +kernel
theorem dX0_next_7 : decode cX0_next 7 = .ok (.iconst (-1), 1) := by decide +kernel
theorem dX0_next_8 : decode cX0_next 8 = .ok (.ireturn, 1) := by decide +kernel
theorem dX0_next_9 : decode cX0_next 9 = .ok (.aload_n 0, 1) := by decide +kernel
theorem dX0_next_10 : decode cX0_next 10 = .ok (.aload_n 0, 1) := by decide +kernel
theorem dX0_next_11 : decode cX0_next 11 = .ok (.getfield 33, 3) := by decide +kernel
theorem dX0_next_14 : decode cX0_next 14 = .ok (.bipush 6, 2) := by decide +kernel
theorem dX0_next_16 : decode cX0_next 16 = .ok (.if_icmp .ne 7, 3) := by decide +kernel
theorem dX0_next_19 : decode cX0_next 19 = .ok (.iconst 0, 1) := by decide +kernel
theorem dX0_next_20 : decode cX0_next 20 = .ok (.goto 9, 3) := by decide +kernel
theorem dX0_next_23 : decode cX0_next 23 = .ok (.aload_n 0, 1) := by decide +kernel
theorem dX0_next_24 : decode cX0_next 24 = .ok (.getfield 33, 3) := by decide +kernel
theorem dX0_next_27 : decode cX0_next 27 = .ok (.iconst 1, 1) := by decide +kernel
theorem dX0_next_28 : decode cX0_next 28 = .ok (.iadd, 1) := by decide +kernel
theorem dX0_next_29 : decode cX0_next 29 = .ok (.invokevirtual 61, 3) := by decide +kernel
theorem dX0_next_32 : decode cX0_next 32 = .ok (.aload_n 0, 1) := by decide +kernel
theorem dX0_next_33 : decode cX0_next 33 = .ok (.getfield 33, 3) := by decide +kernel
theorem dX0_next_36 : decode cX0_next 36 = .ok (.ireturn, 1) := by decide +kernel
theorem dX0_acknowledge_0 : decode cX0_acknowledge 0 = .ok (.aload_n 0, 1) := by decide +kernel
theorem dX0_acknowledge_1 : decode cX0_acknowledge 1 = .ok (.dup, 1) := by decide +kernel
theorem dX0_acknowledge_2 : decode cX0_acknowledge 2 = .ok (.getfield 65, 3) := by decide +kernel
theorem dX0_acknowledge_5 : decode cX0_acknowledge 5 = .ok (.aload_n 0, 1) := by decide +kernel
theorem dX0_acknowledge_6 : decode cX0_acknowledge 6 = .ok (.getfield 68, 3) := by decide +kernel
theorem dX0_acknowledge_9 : decode cX0_acknowledge 9 = .ok (.iand, 1) := by decide +kernel
theorem dX0_acknowledge_10 : decode cX0_acknowledge 10 = .ok (.putfield 65, 3) := by decide +kernel
theorem dX0_acknowledge_13 : decode cX0_acknowledge 13 = .ok (.aload_n 0, 1) := by decide +kernel
theorem dX0_acknowledge_14 : decode cX0_acknowledge 14 = .ok (.getfield 65, 3) := by decide +kernel
theorem dX0_acknowledge_17 : decode cX0_acknowledge 17 = .ok (.ireturn, 1) := by decide +kernel
set_option maxRecDepth 20000 in
theorem ggX0_substitute_X0_isOutside : GoodIn wsX0_substitute wsX0_isOutside := goodIn_r _ [5] (by decide +kernel) (by decide +kernel)
set_option maxRecDepth 20000 in
theorem gX0_substitute_X0_isOutside : GoodIn wsX0_substitute (va_wsS RX0 50 yX0_isOutside wsX0_isOutside) := goodIn_app (goodIn_of _ (by decide +kernel)) ggX0_substitute_X0_isOutside
theorem dX0_substitute_0 : decode cX0_substitute 0 = .ok (.iload_n 1, 1) := by decide +kernel
theorem dX0_substitute_1 : decode cX0_substitute 1 = .ok (.iconst (-1), 1) := by decide +kernel
theorem dX0_substitute_2 : decode cX0_substitute 2 = .ok (.bipush 15, 2) := by decide +kernel
theorem dX0_substitute_4 : decode cX0_substitute 4 = .ok (.invokestatic 50, 3) := by decide +kernel
theorem dX0_substitute_7 : decode cX0_substitute 7 = .ok (.ifCond .eq 5, 3) := by decide +kernel
theorem dX0_substitute_10 : decode cX0_substitute 10 = .ok (.iconst 0, 1) := by decide +kernel
theorem dX0_substitute_11 : decode cX0_substitute 11 = .ok (.ireturn, 1) := by decide +kernel
theorem dX0_substitute_12 : decode cX0_substitute 12 = .ok (.aload_n 0, 1) := by decide +kernel
theorem dX0_substitute_13 : decode cX0_substitute 13 = .ok (.iload_n 1, 1) := by decide +kernel
theorem dX0_substitute_14 : decode cX0_substitute 14 = .ok (.putfield 37, 3) := by decide +kernel
theorem dX0_substitute_17 : decode cX0_substitute 17 = .ok (.iconst 1, 1) := by decide +kernel
theorem dX0_substitute_18 : decode cX0_substitute 18 = .ok (.ireturn, 1) := by decide +kernel
set_option maxRecDepth 20000 in
theorem ggX0_tick_X0_isOutside : GoodIn wsX0_tick wsX0_isOutside := goodIn_r _ [4] (by decide +kernel) (by decide +kernel)
set_option maxRecDepth 20000 in
theorem gX0_tick_X0_isOutside : GoodIn wsX0_tick (va_wsS RX0 50 yX0_isOutside wsX0_isOutside) := goodIn_app (goodIn_of _ (by decide +kernel)) ggX0_tick_X0_isOutside
set_option maxRecDepth 20000 in
theorem ggX0_tick_X0_makeTick : GoodIn wsX0_tick wsX0_makeTick := goodIn_r _ [8, 9, 10, 11, 12, 13, 14, 15, 16, 17, 3, 18, 19, 20, 21, 22, 23, 1, 2, 4, 24, 25, 26, 27, 28, 29, 30, 31, 32, 33, 34, 35, 36, 37, 38, 39, 40, 41, 42, 43, 44, 45, 46, 47, 48, 49, 50, 51, 52, 53, 54, 55, 56, 57, 58, 59, 60, 61, 62, 63, 64, 65, 66, 67, 68, 69, 70, 71, 72, 73, 74, 75, 76, 77, 78, 79, 80, 81, 82, 83, 84, 85, 86, 87, 88, 89, 90, 91, 92, 93, 94, 95, 96, 97, 98, 99, 100, 101, 102, 103, 104, 105, 106, 107] (by decide +kernel) (by decide +kernel)
set_option maxRecDepth 20000 in
theorem gX0_tick_X0_makeTick : GoodIn wsX0_tick (wsV RX0 71 RX0 yX0_makeTick wsX0_makeTick) := goodIn_app (goodIn_of _ (by decide +kernel)) ggX0_tick_X0_makeTick
theorem dX0_tick_0 : decode cX0_tick 0 = .ok (.iload_n 1, 1) := by decide +kernel
theorem dX0_tick_1 : decode cX0_tick 1 = .ok (.iconst 1, 1) := by decide +kernel
theorem dX0_tick_2 : decode cX0_tick 2 = .ok (.sipush 600, 3) := by decide +kernel
theorem dX0_tick_5 : decode cX0_tick 5 = .ok (.invokestatic 50, 3) := by decide +kernel
theorem dX0_tick_8 : decode cX0_tick 8 = .ok (.ifCond .eq 5, 3) := by decide +kernel
theorem dX0_tick_11 : decode cX0_tick 11 = .ok (.iconst (-1), 1) := by decide +kernel
theorem dX0_tick_12 : decode cX0_tick 12 = .ok (.ireturn, 1) := by decide +kernel
theorem dX0_tick_13 : decode cX0_tick 13 = .ok (.iconst 1, 1) := by decide +kernel
theorem dX0_tick_14 : decode cX0_tick 14 = .ok (.istore_n 2, 1) := by decide +kernel
theorem dX0_tick_15 : decode cX0_tick 15 = .ok (.iload_n 2, 1) := by decide +kernel
theorem dX0_tick_16 : decode cX0_tick 16 = .ok (.iload_n 1, 1) := by decide +kernel
theorem dX0_tick_17 : decode cX0_tick 17 = .ok (.if_icmp .gt 18, 3) := by decide +kernel
theorem dX0_tick_20 : decode cX0_tick 20 = .ok (.aload_n 0, 1) := by decide +kernel
theorem dX0_tick_21 : decode cX0_tick 21 = .ok (.invokevirtual 71, 3) := by decide +kernel
theorem dX0_tick_24 : decode cX0_tick 24 = .ok (.ifCond .eq 5, 3) := by decide +kernel
theorem dX0_tick_27 : decode cX0_tick 27 = .ok (.iload_n 2, 1) := by decide +kernel
theorem dX0_tick_28 : decode cX0_tick 28 = .ok (.ireturn, 1) := by decide +kernel
theorem dX0_tick_29 : decode cX0_tick 29 = .ok (.iinc 2 1, 3) := by decide +kernel
theorem dX0_tick_32 : decode cX0_tick 32 = .ok (.goto (-17), 3) := by decide +kernel
theorem dX0_tick_35 : decode cX0_tick 35 = .ok (.iload_n 1, 1) := by decide +kernel
theorem dX0_tick_36 : decode cX0_tick 36 = .ok (.ireturn, 1) := by decide +kernel
theorem dX0_phase_0 : decode cX0_phase 0 = .ok (.aload_n 0, 1) := by decide +kernel
theorem dX0_phase_1 : decode cX0_phase 1 = .ok (.getfield 33, 3) := by decide +kernel
theorem dX0_phase_4 : decode cX0_phase 4 = .ok (.ireturn, 1) := by decide +kernel
theorem dX0_alarms_0 : decode cX0_alarms 0 = .ok (.aload_n 0, 1) := by decide +kernel
theorem dX0_alarms_1 : decode cX0_alarms 1 = .ok (.getfield 65, 3) := by decide +kernel
theorem dX0_alarms_4 : decode cX0_alarms 4 = .ok (.ireturn, 1) := by decide +kernel
theorem dX0_conditions_0 : decode cX0_conditions 0 = .ok (.aload_n 0, 1) := by decide +kernel
theorem dX0_conditions_1 : decode cX0_conditions 1 = .ok (.getfield 68, 3) := by decide +kernel
theorem dX0_conditions_4 : decode cX0_conditions 4 = .ok (.ireturn, 1) := by decide +kernel
theorem dX0_outputs_0 : decode cX0_outputs 0 = .ok (.aload_n 0, 1) := by decide +kernel
theorem dX0_outputs_1 : decode cX0_outputs 1 = .ok (.getfield 74, 3) := by decide +kernel
theorem dX0_outputs_4 : decode cX0_outputs 4 = .ok (.ireturn, 1) := by decide +kernel
theorem dX0_effective_0 : decode cX0_effective 0 = .ok (.aload_n 0, 1) := by decide +kernel
theorem dX0_effective_1 : decode cX0_effective 1 = .ok (.getfield 77, 3) := by decide +kernel
theorem dX0_effective_4 : decode cX0_effective 4 = .ok (.ireturn, 1) := by decide +kernel
theorem dX0_accounted_0 : decode cX0_accounted 0 = .ok (.aload_n 0, 1) := by decide +kernel
theorem dX0_accounted_1 : decode cX0_accounted 1 = .ok (.getfield 80, 3) := by decide +kernel
theorem dX0_accounted_4 : decode cX0_accounted 4 = .ok (.ireturn, 1) := by decide +kernel
theorem dX0_strokes_0 : decode cX0_strokes 0 = .ok (.aload_n 0, 1) := by decide +kernel
theorem dX0_strokes_1 : decode cX0_strokes 1 = .ok (.getfield 83, 3) := by decide +kernel
theorem dX0_strokes_4 : decode cX0_strokes 4 = .ok (.ireturn, 1) := by decide +kernel
theorem dX0_trips_0 : decode cX0_trips 0 = .ok (.aload_n 0, 1) := by decide +kernel
theorem dX0_trips_1 : decode cX0_trips 1 = .ok (.getfield 86, 3) := by decide +kernel
theorem dX0_trips_4 : decode cX0_trips 4 = .ok (.ireturn, 1) := by decide +kernel
theorem dX0_counted_0 : decode cX0_counted 0 = .ok (.aload_n 0, 1) := by decide +kernel
theorem dX0_counted_1 : decode cX0_counted 1 = .ok (.getfield 89, 3) := by decide +kernel
theorem dX0_counted_4 : decode cX0_counted 4 = .ok (.ireturn, 1) := by decide +kernel
theorem dX0_isParameter_0 : decode cX0_isParameter 0 = .ok (.iload_n 0, 1) := by decide +kernel
theorem dX0_isParameter_1 : decode cX0_isParameter 1 = .ok (.ifCond .lt 13, 3) := by decide +kernel
theorem dX0_isParameter_4 : decode cX0_isParameter 4 = .ok (.iload_n 0, 1) := by decide +kernel
theorem dX0_isParameter_5 : decode cX0_isParameter 5 = .ok (.bipush 10, 2) := by decide +kernel
theorem dX0_isParameter_7 : decode cX0_isParameter 7 = .ok (.if_icmp .ge 7, 3) := by decide +kernel
theorem dX0_isParameter_10 : decode cX0_isParameter 10 = .ok (.iconst 1, 1) := by decide +kernel
theorem dX0_isParameter_11 : decode cX0_isParameter 11 = .ok (.goto 4, 3) := by decide +kernel
theorem dX0_isParameter_14 : decode cX0_isParameter 14 = .ok (.iconst 0, 1) := by decide +kernel
theorem dX0_isParameter_15 : decode cX0_isParameter 15 = .ok (.ireturn, 1) := by decide +kernel
theorem dX0_isSensor_0 : decode cX0_isSensor 0 = .ok (.iload_n 0, 1) := by decide +kernel
theorem dX0_isSensor_1 : decode cX0_isSensor 1 = .ok (.ifCond .lt 13, 3) := by decide +kernel
theorem dX0_isSensor_4 : decode cX0_isSensor 4 = .ok (.iload_n 0, 1) := by decide +kernel
theorem dX0_isSensor_5 : decode cX0_isSensor 5 = .ok (.bipush 6, 2) := by decide +kernel
theorem dX0_isSensor_7 : decode cX0_isSensor 7 = .ok (.if_icmp .ge 7, 3) := by decide +kernel
theorem dX0_isSensor_10 : decode cX0_isSensor 10 = .ok (.iconst 1, 1) := by decide +kernel
theorem dX0_isSensor_11 : decode cX0_isSensor 11 = .ok (.goto 4, 3) := by decide +kernel
theorem dX0_isSensor_14 : decode cX0_isSensor 14 = .ok (.iconst 0, 1) := by decide +kernel
theorem dX0_isSensor_15 : decode cX0_isSensor 15 = .ok (.ireturn, 1) := by decide +kernel
theorem dX0_isOutside_0 : decode cX0_isOutside 0 = .ok (.iload_n 0, 1) := by decide +kernel
theorem dX0_isOutside_1 : decode cX0_isOutside 1 = .ok (.iload_n 1, 1) := by decide +kernel
theorem dX0_isOutside_2 : decode cX0_isOutside 2 = .ok (.if_icmp .lt 8, 3) := by decide +kernel
theorem dX0_isOutside_5 : decode cX0_isOutside 5 = .ok (.iload_n 0, 1) := by decide +kernel
theorem dX0_isOutside_6 : decode cX0_isOutside 6 = .ok (.iload_n 2, 1) := by decide +kernel
theorem dX0_isOutside_7 : decode cX0_isOutside 7 = .ok (.if_icmp .le 7, 3) := by decide +kernel
theorem dX0_isOutside_10 : decode cX0_isOutside 10 = .ok (.iconst 1, 1) := by decide +kernel
theorem dX0_isOutside_11 : decode cX0_isOutside 11 = .ok (.goto 4, 3) := by decide +kernel
theorem dX0_isOutside_14 : decode cX0_isOutside 14 = .ok (.iconst 0, 1) := by decide +kernel
theorem dX0_isOutside_15 : decode cX0_isOutside 15 = .ok (.ireturn, 1) := by decide +kernel
set_option maxRecDepth 20000 in
theorem ggX0_mayLeavePhase_X0_areConsistent : GoodIn wsX0_mayLeavePhase wsX0_areConsistent := goodIn_r _ [9, 10, 11, 12, 13, 14, 15, 16, 17, 18, 19, 20, 21, 22, 23, 24, 25, 26, 27, 28] (by decide +kernel) (by decide +kernel)
set_option maxRecDepth 20000 in
theorem gX0_mayLeavePhase_X0_areConsistent : GoodIn wsX0_mayLeavePhase (wsV RX0 95 RX0 yX0_areConsistent wsX0_areConsistent) := goodIn_app (goodIn_of _ (by decide +kernel)) ggX0_mayLeavePhase_X0_areConsistent
theorem dX0_mayLeavePhase_0 : decode cX0_mayLeavePhase 0 = .ok (.aload_n 0, 1) := by decide +kernel
theorem dX0_mayLeavePhase_1 : decode cX0_mayLeavePhase 1 = .ok (.getfield 33, 3) := by decide +kernel
theorem dX0_mayLeavePhase_4 : decode cX0_mayLeavePhase 4 = .ok (.tableswitch 127 0 5 #[40, 69, 84, 127, 97, 112], 40) := by decide +kernel
theorem dX0_mayLeavePhase_44 : decode cX0_mayLeavePhase 44 = .ok (.aload_n 0, 1) := by decide +kernel
theorem dX0_mayLeavePhase_45 : decode cX0_mayLeavePhase 45 = .ok (.invokevirtual 95, 3) := by decide +kernel
theorem dX0_mayLeavePhase_48 : decode cX0_mayLeavePhase 48 = .ok (.ifCond .eq 23, 3) := by decide +kernel
theorem dX0_mayLeavePhase_51 : decode cX0_mayLeavePhase 51 = .ok (.aload_n 0, 1) := by decide +kernel
theorem dX0_mayLeavePhase_52 : decode cX0_mayLeavePhase 52 = .ok (.getfield 92, 3) := by decide +kernel
theorem dX0_mayLeavePhase_55 : decode cX0_mayLeavePhase 55 = .ok (.bipush 20, 2) := by decide +kernel
theorem dX0_mayLeavePhase_57 : decode cX0_mayLeavePhase 57 = .ok (.if_icmp .lt 14, 3) := by decide +kernel
theorem dX0_mayLeavePhase_60 : decode cX0_mayLeavePhase 60 = .ok (.aload_n 0, 1) := by decide +kernel
theorem dX0_mayLeavePhase_61 : decode cX0_mayLeavePhase 61 = .ok (.getfield 65, 3) := by decide +kernel
theorem dX0_mayLeavePhase_64 : decode cX0_mayLeavePhase 64 = .ok (.ifCond .ne 7, 3) := by decide +kernel
theorem dX0_mayLeavePhase_67 : decode cX0_mayLeavePhase 67 = .ok (.iconst 1, 1) := by decide +kernel
theorem dX0_mayLeavePhase_68 : decode cX0_mayLeavePhase 68 = .ok (.goto 4, 3) := by decide +kernel
theorem dX0_mayLeavePhase_71 : decode cX0_mayLeavePhase 71 = .ok (.iconst 0, 1) := by decide +kernel
theorem dX0_mayLeavePhase_72 : decode cX0_mayLeavePhase 72 = .ok (.ireturn, 1) := by decide +kernel
theorem dX0_mayLeavePhase_73 : decode cX0_mayLeavePhase 73 = .ok (.aload_n 0, 1) := by decide +kernel
theorem dX0_mayLeavePhase_74 : decode cX0_mayLeavePhase 74 = .ok (.getfield 89, 3) := by decide +kernel
theorem dX0_mayLeavePhase_77 : decode cX0_mayLeavePhase 77 = .ok (.bipush 100, 2) := by decide +kernel
theorem dX0_mayLeavePhase_79 : decode cX0_mayLeavePhase 79 = .ok (.if_icmp .lt 7, 3) := by decide +kernel
theorem dX0_mayLeavePhase_82 : decode cX0_mayLeavePhase 82 = .ok (.iconst 1, 1) := by decide +kernel
theorem dX0_mayLeavePhase_83 : decode cX0_mayLeavePhase 83 = .ok (.goto 4, 3) := by decide +kernel
theorem dX0_mayLeavePhase_86 : decode cX0_mayLeavePhase 86 = .ok (.iconst 0, 1) := by decide +kernel
theorem dX0_mayLeavePhase_87 : decode cX0_mayLeavePhase 87 = .ok (.ireturn, 1) := by decide +kernel
theorem dX0_mayLeavePhase_88 : decode cX0_mayLeavePhase 88 = .ok (.aload_n 0, 1) := by decide +kernel
theorem dX0_mayLeavePhase_89 : decode cX0_mayLeavePhase 89 = .ok (.getfield 65, 3) := by decide +kernel
theorem dX0_mayLeavePhase_92 : decode cX0_mayLeavePhase 92 = .ok (.ifCond .ne 7, 3) := by decide +kernel
theorem dX0_mayLeavePhase_95 : decode cX0_mayLeavePhase 95 = .ok (.iconst 1, 1) := by decide +kernel
theorem dX0_mayLeavePhase_96 : decode cX0_mayLeavePhase 96 = .ok (.goto 4, 3) := by decide +kernel
theorem dX0_mayLeavePhase_99 : decode cX0_mayLeavePhase 99 = .ok (.iconst 0, 1) := by decide +kernel
theorem dX0_mayLeavePhase_100 : decode cX0_mayLeavePhase 100 = .ok (.ireturn, 1) := by decide +kernel
theorem dX0_mayLeavePhase_101 : decode cX0_mayLeavePhase 101 = .ok (.aload_n 0, 1) := by decide +kernel
theorem dX0_mayLeavePhase_102 : decode cX0_mayLeavePhase 102 = .ok (.getfield 89, 3) := by decide +kernel
theorem dX0_mayLeavePhase_105 : decode cX0_mayLeavePhase 105 = .ok (.bipush 50, 2) := by decide +kernel
theorem dX0_mayLeavePhase_107 : decode cX0_mayLeavePhase 107 = .ok (.if_icmp .lt 7, 3) := by decide +kernel
theorem dX0_mayLeavePhase_110 : decode cX0_mayLeavePhase 110 = .ok (.iconst 1, 1) := by decide +kernel
theorem dX0_mayLeavePhase_111 : decode cX0_mayLeavePhase 111 = .ok (.goto 4, 3) := by decide +kernel
theorem dX0_mayLeavePhase_114 : decode cX0_mayLeavePhase 114 = .ok (.iconst 0, 1) := by decide +kernel
theorem dX0_mayLeavePhase_115 : decode cX0_mayLeavePhase 115 = .ok (.ireturn, 1) := by decide +kernel
theorem dX0_mayLeavePhase_116 : decode cX0_mayLeavePhase 116 = .ok (.aload_n 0, 1) := by decide +kernel
theorem dX0_mayLeavePhase_117 : decode cX0_mayLeavePhase 117 = .ok (.getfield 89, 3) := by decide +kernel
theorem dX0_mayLeavePhase_120 : decode cX0_mayLeavePhase 120 = .ok (.bipush 30, 2) := by decide +kernel
theorem dX0_mayLeavePhase_122 : decode cX0_mayLeavePhase 122 = .ok (.if_icmp .lt 7, 3) := by decide +kernel
theorem dX0_mayLeavePhase_125 : decode cX0_mayLeavePhase 125 = .ok (.iconst 1, 1) := by decide +kernel
theorem dX0_mayLeavePhase_126 : decode cX0_mayLeavePhase 126 = .ok (.goto 4, 3) := by decide +kernel
theorem dX0_mayLeavePhase_129 : decode cX0_mayLeavePhase 129 = .ok (.iconst 0, 1) := by decide +kernel
theorem dX0_mayLeavePhase_130 : decode cX0_mayLeavePhase 130 = .ok (.ireturn, 1) := by decide +kernel
theorem dX0_mayLeavePhase_131 : decode cX0_mayLeavePhase 131 = .ok (.iconst 1, 1) := by decide +kernel
theorem dX0_mayLeavePhase_132 : decode cX0_mayLeavePhase 132 = .ok (.ireturn, 1) := by decide +kernel
theorem dX0_areConsistent_0 : decode cX0_areConsistent 0 = .ok (.aload_n 0, 1) := by decide +kernel
theorem dX0_areConsistent_1 : decode cX0_areConsistent 1 = .ok (.getfield 18, 3) := by decide +kernel
theorem dX0_areConsistent_4 : decode cX0_areConsistent 4 = .ok (.bipush 6, 2) := by decide +kernel
theorem dX0_areConsistent_6 : decode cX0_areConsistent 6 = .ok (.iaload, 1) := by decide +kernel
theorem dX0_areConsistent_7 : decode cX0_areConsistent 7 = .ok (.bipush 20, 2) := by decide +kernel
theorem dX0_areConsistent_9 : decode cX0_areConsistent 9 = .ok (.iadd, 1) := by decide +kernel
theorem dX0_areConsistent_10 : decode cX0_areConsistent 10 = .ok (.aload_n 0, 1) := by decide +kernel
theorem dX0_areConsistent_11 : decode cX0_areConsistent 11 = .ok (.getfield 18, 3) := by decide +kernel
theorem dX0_areConsistent_14 : decode cX0_areConsistent 14 = .ok (.bipush 7, 2) := by decide +kernel
theorem dX0_areConsistent_16 : decode cX0_areConsistent 16 = .ok (.iaload, 1) := by decide +kernel
theorem dX0_areConsistent_17 : decode cX0_areConsistent 17 = .ok (.if_icmp .gt 52, 3) := by decide +kernel
theorem dX0_areConsistent_20 : decode cX0_areConsistent 20 = .ok (.aload_n 0, 1) := by decide +kernel
theorem dX0_areConsistent_21 : decode cX0_areConsistent 21 = .ok (.getfield 18, 3) := by decide +kernel
theorem dX0_areConsistent_24 : decode cX0_areConsistent 24 = .ok (.bipush 8, 2) := by decide +kernel
theorem dX0_areConsistent_26 : decode cX0_areConsistent 26 = .ok (.iaload, 1) := by decide +kernel
theorem dX0_areConsistent_27 : decode cX0_areConsistent 27 = .ok (.bipush 20, 2) := by decide +kernel
theorem dX0_areConsistent_29 : decode cX0_areConsistent 29 = .ok (.iadd, 1) := by decide +kernel
theorem dX0_areConsistent_30 : decode cX0_areConsistent 30 = .ok (.aload_n 0, 1) := by decide +kernel
theorem dX0_areConsistent_31 : decode cX0_areConsistent 31 = .ok (.getfield 18, 3) := by decide +kernel
theorem dX0_areConsistent_34 : decode cX0_areConsistent 34 = .ok (.bipush 9, 2) := by decide +kernel
theorem dX0_areConsistent_36 : decode cX0_areConsistent 36 = .ok (.iaload, 1) := by decide +kernel
theorem dX0_areConsistent_37 : decode cX0_areConsistent 37 = .ok (.if_icmp .gt 32, 3) := by decide +kernel
theorem dX0_areConsistent_40 : decode cX0_areConsistent 40 = .ok (.bipush 60, 2) := by decide +kernel
theorem dX0_areConsistent_42 : decode cX0_areConsistent 42 = .ok (.aload_n 0, 1) := by decide +kernel
theorem dX0_areConsistent_43 : decode cX0_areConsistent 43 = .ok (.getfield 18, 3) := by decide +kernel
theorem dX0_areConsistent_46 : decode cX0_areConsistent 46 = .ok (.iconst 1, 1) := by decide +kernel
theorem dX0_areConsistent_47 : decode cX0_areConsistent 47 = .ok (.iaload, 1) := by decide +kernel
theorem dX0_areConsistent_48 : decode cX0_areConsistent 48 = .ok (.imul, 1) := by decide +kernel
theorem dX0_areConsistent_49 : decode cX0_areConsistent 49 = .ok (.aload_n 0, 1) := by decide +kernel
theorem dX0_areConsistent_50 : decode cX0_areConsistent 50 = .ok (.getfield 18, 3) := by decide +kernel
theorem dX0_areConsistent_53 : decode cX0_areConsistent 53 = .ok (.iconst 2, 1) := by decide +kernel
theorem dX0_areConsistent_54 : decode cX0_areConsistent 54 = .ok (.iaload, 1) := by decide +kernel
theorem dX0_areConsistent_55 : decode cX0_areConsistent 55 = .ok (.aload_n 0, 1) := by decide +kernel
theorem dX0_areConsistent_56 : decode cX0_areConsistent 56 = .ok (.getfield 18, 3) := by decide +kernel
theorem dX0_areConsistent_59 : decode cX0_areConsistent 59 = .ok (.iconst 3, 1) := by decide +kernel
theorem dX0_areConsistent_60 : decode cX0_areConsistent 60 = .ok (.iaload, 1) := by decide +kernel
theorem dX0_areConsistent_61 : decode cX0_areConsistent 61 = .ok (.imul, 1) := by decide +kernel
theorem dX0_areConsistent_62 : decode cX0_areConsistent 62 = .ok (.if_icmp .gt 7, 3) := by decide +kernel
theorem dX0_areConsistent_65 : decode cX0_areConsistent 65 = .ok (.iconst 1, 1) := by decide +kernel
theorem dX0_areConsistent_66 : decode cX0_areConsistent 66 = .ok (.goto 4, 3) := by decide +kernel
theorem dX0_areConsistent_69 : decode cX0_areConsistent 69 = .ok (.iconst 0, 1) := by decide +kernel
theorem dX0_areConsistent_70 : decode cX0_areConsistent 70 = .ok (.ireturn, 1) := by decide +kernel
theorem dX0_beginPhase_0 : decode cX0_beginPhase 0 = .ok (.aload_n 0, 1) := by decide +kernel
theorem dX0_beginPhase_1 : decode cX0_beginPhase 1 = .ok (.iload_n 1, 1) := by decide +kernel
theorem dX0_beginPhase_2 : decode cX0_beginPhase 2 = .ok (.putfield 33, 3) := by decide +kernel
theorem dX0_beginPhase_5 : decode cX0_beginPhase 5 = .ok (.aload_n 0, 1) := by decide +kernel
theorem dX0_beginPhase_6 : decode cX0_beginPhase 6 = .ok (.iconst 0, 1) := by decide +kernel
theorem dX0_beginPhase_7 : decode cX0_beginPhase 7 = .ok (.putfield 89, 3) := by decide +kernel
theorem dX0_beginPhase_10 : decode cX0_beginPhase 10 = .ok (.iload_n 1, 1) := by decide +kernel
theorem dX0_beginPhase_11 : decode cX0_beginPhase 11 = .ok (.iconst 3, 1) := by decide +kernel
theorem dX0_beginPhase_12 : decode cX0_beginPhase 12 = .ok (.if_icmp .ne 18, 3) := by decide +kernel
theorem dX0_beginPhase_15 : decode cX0_beginPhase 15 = .ok (.aload_n 0, 1) := by decide +kernel
theorem dX0_beginPhase_16 : decode cX0_beginPhase 16 = .ok (.iconst 0, 1) := by decide +kernel
theorem dX0_beginPhase_17 : decode cX0_beginPhase 17 = .ok (.putfield 77, 3) := by decide +kernel
theorem dX0_beginPhase_20 : decode cX0_beginPhase 20 = .ok (.aload_n 0, 1) := by decide +kernel
theorem dX0_beginPhase_21 : decode cX0_beginPhase 21 = .ok (.iconst 0, 1) := by decide +kernel
theorem dX0_beginPhase_22 : decode cX0_beginPhase 22 = .ok (.putfield 80, 3) := by decide +kernel
theorem dX0_beginPhase_25 : decode cX0_beginPhase 25 = .ok (.aload_n 0, 1) := by decide +kernel
theorem dX0_beginPhase_26 : decode cX0_beginPhase 26 = .ok (.iconst 0, 1) := by decide +kernel
theorem dX0_beginPhase_27 : decode cX0_beginPhase 27 = .ok (.putfield 83, 3) := by decide +kernel
theorem dX0_beginPhase_30 : decode cX0_beginPhase 30 = .ok (.return_, 1) := by decide +kernel
set_option maxRecDepth 20000 in
theorem ggX0_makeTick_X0_conditionSensors : GoodIn wsX0_makeTick wsX0_conditionSensors := goodIn_r _ [11, 12, 13, 14, 15, 16, 17, 18, 10, 19, 86, 87, 88, 89, 90, 91, 92, 93, 94, 95, 96, 97, 98, 99, 100, 101, 102, 103] (by decide +kernel) (by decide +kernel)
set_option maxRecDepth 20000 in
theorem gX0_makeTick_X0_conditionSensors : GoodIn wsX0_makeTick (wsV RX0 98 RX0 yX0_conditionSensors wsX0_conditionSensors) := goodIn_app (goodIn_of _ (by decide +kernel)) ggX0_makeTick_X0_conditionSensors
set_option maxRecDepth 20000 in
theorem ggX0_makeTick_X0_countTicksInARow : GoodIn wsX0_makeTick wsX0_countTicksInARow := goodIn_r _ [23, 16, 24, 25, 26, 27, 28, 29, 30, 31, 10, 32, 2, 17, 18, 19, 33, 34, 35, 36, 37, 38, 39, 40, 86, 87, 88, 89, 90, 91, 92, 93, 94, 95, 96, 97, 98, 99, 100, 101, 102, 103] (by decide +kernel) (by decide +kernel)
set_option maxRecDepth 20000 in
theorem gX0_makeTick_X0_countTicksInARow : GoodIn wsX0_makeTick (wsV RX0 101 RX0 yX0_countTicksInARow wsX0_countTicksInARow) := goodIn_app (goodIn_of _ (by decide +kernel)) ggX0_makeTick_X0_countTicksInARow
set_option maxRecDepth 20000 in
theorem ggX0_makeTick_X0_conditionsNow : GoodIn wsX0_makeTick wsX0_conditionsNow := goodIn_r _ [44, 25, 26, 16, 2, 27, 29, 30, 31, 10, 32, 45, 46, 47, 48, 15, 86, 87, 88, 89, 90, 91, 92, 93, 94, 95, 96, 97, 98, 99, 100, 101, 102, 103] (by decide +kernel) (by decide +kernel)
set_option maxRecDepth 20000 in
theorem gX0_makeTick_X0_conditionsNow : GoodIn wsX0_makeTick (wsV RX0 104 RX0 yX0_conditionsNow wsX0_conditionsNow) := goodIn_app (goodIn_of _ (by decide +kernel)) ggX0_makeTick_X0_conditionsNow
set_option maxRecDepth 20000 in
theorem ggX0_makeTick_X0_commandsOfControl : GoodIn wsX0_makeTick wsX0_commandsOfControl := goodIn_r _ [52, 2, 1, 27, 53, 54, 55, 56, 57, 10, 58, 24, 59, 60, 61, 62, 63, 86, 87, 88, 89, 90, 91, 92, 93, 94, 95, 96, 97, 98, 99, 100, 101, 102, 103] (by decide +kernel) (by decide +kernel)
set_option maxRecDepth 20000 in
theorem gX0_makeTick_X0_commandsOfControl : GoodIn wsX0_makeTick (wsV RX0 108 RX0 yX0_commandsOfControl wsX0_commandsOfControl) := goodIn_app (goodIn_of _ (by decide +kernel)) ggX0_makeTick_X0_commandsOfControl
set_option maxRecDepth 20000 in
theorem ggX0_makeTick_X0_afterProtection : GoodIn wsX0_makeTick wsX0_afterProtection := goodIn_r _ [67, 68, 2, 12, 29, 30, 31, 10, 32, 69, 70, 71, 72, 17, 18, 19, 73, 74, 75, 76, 6, 24, 86, 87, 88, 89, 90, 91, 92, 93, 94, 95, 96, 97, 98, 99, 100, 101, 102, 103] (by decide +kernel) (by decide +kernel)
set_option maxRecDepth 20000 in
theorem gX0_makeTick_X0_afterProtection : GoodIn wsX0_makeTick (wsV RX0 111 RX0 yX0_afterProtection wsX0_afterProtection) := goodIn_app (goodIn_of _ (by decide +kernel)) ggX0_makeTick_X0_afterProtection
set_option maxRecDepth 20000 in
theorem ggX0_makeTick_X0_countTowardsEnd : GoodIn wsX0_makeTick wsX0_countTowardsEnd := goodIn_r _ [80, 2, 5, 81, 53, 60, 61, 62, 10, 63, 24, 82, 83, 84, 85, 54, 6, 86, 87, 88, 89, 90, 91, 92, 93, 94, 95, 96, 97, 98, 99, 100, 101, 102, 103] (by decide +kernel) (by decide +kernel)
set_option maxRecDepth 20000 in
theorem gX0_makeTick_X0_countTowardsEnd : GoodIn wsX0_makeTick (wsV RX0 115 RX0 yX0_countTowardsEnd wsX0_countTowardsEnd) := goodIn_app (goodIn_of _ (by decide +kernel)) ggX0_makeTick_X0_countTowardsEnd
theorem dX0_makeTick_0 : decode cX0_makeTick 0 = .ok (.aload_n 0, 1) := by decide +kernel
theorem dX0_makeTick_1 : decode cX0_makeTick 1 = .ok (.getfield 65, 3) := by decide +kernel
theorem dX0_makeTick_4 : decode cX0_makeTick 4 = .ok (.istore_n 1, 1) := by decide +kernel
theorem dX0_makeTick_5 : decode cX0_makeTick 5 = .ok (.aload_n 0, 1) := by decide +kernel
theorem dX0_makeTick_6 : decode cX0_makeTick 6 = .ok (.getfield 33, 3) := by decide +kernel
theorem dX0_makeTick_9 : decode cX0_makeTick 9 = .ok (.istore_n 2, 1) := by decide +kernel
theorem dX0_makeTick_10 : decode cX0_makeTick 10 = .ok (.aload_n 0, 1) := by decide +kernel
theorem dX0_makeTick_11 : decode cX0_makeTick 11 = .ok (.invokevirtual 98, 3) := by decide +kernel
theorem dX0_makeTick_14 : decode cX0_makeTick 14 = .ok (.aload_n 0, 1) := by decide +kernel
theorem dX0_makeTick_15 : decode cX0_makeTick 15 = .ok (.invokevirtual 101, 3) := by decide +kernel
theorem dX0_makeTick_18 : decode cX0_makeTick 18 = .ok (.aload_n 0, 1) := by decide +kernel
theorem dX0_makeTick_19 : decode cX0_makeTick 19 = .ok (.aload_n 0, 1) := by decide +kernel
theorem dX0_makeTick_20 : decode cX0_makeTick 20 = .ok (.invokevirtual 104, 3) := by decide +kernel
theorem dX0_makeTick_23 : decode cX0_makeTick 23 = .ok (.putfield 68, 3) := by decide +kernel
theorem dX0_makeTick_26 : decode cX0_makeTick 26 = .ok (.aload_n 0, 1) := by decide +kernel
theorem dX0_makeTick_27 : decode cX0_makeTick 27 = .ok (.dup, 1) := by decide +kernel
theorem dX0_makeTick_28 : decode cX0_makeTick 28 = .ok (.getfield 65, 3) := by decide +kernel
theorem dX0_makeTick_31 : decode cX0_makeTick 31 = .ok (.aload_n 0, 1) := by decide +kernel
theorem dX0_makeTick_32 : decode cX0_makeTick 32 = .ok (.getfield 68, 3) := by decide +kernel
theorem dX0_makeTick_35 : decode cX0_makeTick 35 = .ok (.ior, 1) := by decide +kernel
theorem dX0_makeTick_36 : decode cX0_makeTick 36 = .ok (.putfield 65, 3) := by decide +kernel
theorem dX0_makeTick_39 : decode cX0_makeTick 39 = .ok (.aload_n 0, 1) := by decide +kernel
theorem dX0_makeTick_40 : decode cX0_makeTick 40 = .ok (.invokevirtual 108, 3) := by decide +kernel
theorem dX0_makeTick_43 : decode cX0_makeTick 43 = .ok (.istore_n 3, 1) := by decide +kernel
theorem dX0_makeTick_44 : decode cX0_makeTick 44 = .ok (.aload_n 0, 1) := by decide +kernel
theorem dX0_makeTick_45 : decode cX0_makeTick 45 = .ok (.aload_n 0, 1) := by decide +kernel
theorem dX0_makeTick_46 : decode cX0_makeTick 46 = .ok (.aload_n 0, 1) := by decide +kernel
theorem dX0_makeTick_47 : decode cX0_makeTick 47 = .ok (.getfield 37, 3) := by decide +kernel
theorem dX0_makeTick_50 : decode cX0_makeTick 50 = .ok (.iconst (-1), 1) := by decide +kernel
theorem dX0_makeTick_51 : decode cX0_makeTick 51 = .ok (.if_icmp .ne 7, 3) := by decide +kernel
theorem dX0_makeTick_54 : decode cX0_makeTick 54 = .ok (.iload_n 3, 1) := by decide +kernel
theorem dX0_makeTick_55 : decode cX0_makeTick 55 = .ok (.goto 7, 3) := by decide +kernel
theorem dX0_makeTick_58 : decode cX0_makeTick 58 = .ok (.aload_n 0, 1) := by decide +kernel
theorem dX0_makeTick_59 : decode cX0_makeTick 59 = .ok (.getfield 37, 3) := by decide +kernel
theorem dX0_makeTick_62 : decode cX0_makeTick 62 = .ok (.invokevirtual 111, 3) := by decide +kernel
theorem dX0_makeTick_65 : decode cX0_makeTick 65 = .ok (.putfield 74, 3) := by decide +kernel
theorem dX0_makeTick_68 : decode cX0_makeTick 68 = .ok (.aload_n 0, 1) := by decide +kernel
theorem dX0_makeTick_69 : decode cX0_makeTick 69 = .ok (.getfield 74, 3) := by decide +kernel
theorem dX0_makeTick_72 : decode cX0_makeTick 72 = .ok (.bipush 8, 2) := by decide +kernel
theorem dX0_makeTick_74 : decode cX0_makeTick 74 = .ok (.iand, 1) := by decide +kernel
theorem dX0_makeTick_75 : decode cX0_makeTick 75 = .ok (.ifCond .eq 13, 3) := by decide +kernel
theorem dX0_makeTick_78 : decode cX0_makeTick 78 = .ok (.aload_n 0, 1) := by decide +kernel
theorem dX0_makeTick_79 : decode cX0_makeTick 79 = .ok (.dup, 1) := by decide +kernel
theorem dX0_makeTick_80 : decode cX0_makeTick 80 = .ok (.getfield 83, 3) := by decide +kernel
theorem dX0_makeTick_83 : decode cX0_makeTick 83 = .ok (.iconst 1, 1) := by decide +kernel
theorem dX0_makeTick_84 : decode cX0_makeTick 84 = .ok (.iadd, 1) := by decide +kernel
theorem dX0_makeTick_85 : decode cX0_makeTick 85 = .ok (.putfield 83, 3) := by decide +kernel
theorem dX0_makeTick_88 : decode cX0_makeTick 88 = .ok (.aload_n 0, 1) := by decide +kernel
theorem dX0_makeTick_89 : decode cX0_makeTick 89 = .ok (.invokevirtual 115, 3) := by decide +kernel
theorem dX0_makeTick_92 : decode cX0_makeTick 92 = .ok (.aload_n 0, 1) := by decide +kernel
theorem dX0_makeTick_93 : decode cX0_makeTick 93 = .ok (.getfield 65, 3) := by decide +kernel
theorem dX0_makeTick_96 : decode cX0_makeTick 96 = .ok (.iload_n 1, 1) := by decide +kernel
theorem dX0_makeTick_97 : decode cX0_makeTick 97 = .ok (.if_icmp .ne 11, 3) := by decide +kernel
theorem dX0_makeTick_100 : decode cX0_makeTick 100 = .ok (.aload_n 0, 1) := by decide +kernel
theorem dX0_makeTick_101 : decode cX0_makeTick 101 = .ok (.getfield 33, 3) := by decide +kernel
theorem dX0_makeTick_104 : decode cX0_makeTick 104 = .ok (.iload_n 2, 1) := by decide +kernel
theorem dX0_makeTick_105 : decode cX0_makeTick 105 = .ok (.if_icmp .eq 7, 3) := by decide +kernel
theorem dX0_makeTick_108 : decode cX0_makeTick 108 = .ok (.iconst 1, 1) := by decide +kernel
theorem dX0_makeTick_109 : decode cX0_makeTick 109 = .ok (.goto 4, 3) := by decide +kernel
theorem dX0_makeTick_112 : decode cX0_makeTick 112 = .ok (.iconst 0, 1) := by decide +kernel
theorem dX0_makeTick_113 : decode cX0_makeTick 113 = .ok (.ireturn, 1) := by decide +kernel
set_option maxRecDepth 20000 in
theorem ggX0_conditionSensors_X0_isOutside : GoodIn wsX0_conditionSensors wsX0_isOutside := goodIn_r _ [9] (by decide +kernel) (by decide +kernel)
set_option maxRecDepth 20000 in
theorem gX0_conditionSensors_X0_isOutside : GoodIn wsX0_conditionSensors (va_wsS RX0 50 yX0_isOutside wsX0_isOutside) := goodIn_app (goodIn_of _ (by decide +kernel)) ggX0_conditionSensors_X0_isOutside
theorem dX0_conditionSensors_0 : decode cX0_conditionSensors 0 = .ok (.iconst 0, 1) := by decide +kernel
theorem dX0_conditionSensors_1 : decode cX0_conditionSensors 1 = .ok (.istore_n 1, 1) := by decide +kernel
theorem dX0_conditionSensors_2 : decode cX0_conditionSensors 2 = .ok (.iload_n 1, 1) := by decide +kernel
theorem dX0_conditionSensors_3 : decode cX0_conditionSensors 3 = .ok (.bipush 6, 2) := by decide +kernel
theorem dX0_conditionSensors_5 : decode cX0_conditionSensors 5 = .ok (.if_icmp .ge 63, 3) := by decide +kernel
theorem dX0_conditionSensors_8 : decode cX0_conditionSensors 8 = .ok (.aload_n 0, 1) := by decide +kernel
theorem dX0_conditionSensors_9 : decode cX0_conditionSensors 9 = .ok (.getfield 24, 3) := by decide +kernel
theorem dX0_conditionSensors_12 : decode cX0_conditionSensors 12 = .ok (.iload_n 1, 1) := by decide +kernel
theorem dX0_conditionSensors_13 : decode cX0_conditionSensors 13 = .ok (.iaload, 1) := by decide +kernel
theorem dX0_conditionSensors_14 : decode cX0_conditionSensors 14 = .ok (.getstatic 118, 3) := by decide +kernel
theorem dX0_conditionSensors_17 : decode cX0_conditionSensors 17 = .ok (.iload_n 1, 1) := by decide +kernel
theorem dX0_conditionSensors_18 : decode cX0_conditionSensors 18 = .ok (.iaload, 1) := by decide +kernel
theorem dX0_conditionSensors_19 : decode cX0_conditionSensors 19 = .ok (.getstatic 121, 3) := by decide +kernel
theorem dX0_conditionSensors_22 : decode cX0_conditionSensors 22 = .ok (.iload_n 1, 1) := by decide +kernel
theorem dX0_conditionSensors_23 : decode cX0_conditionSensors 23 = .ok (.iaload, 1) := by decide +kernel
theorem dX0_conditionSensors_24 : decode cX0_conditionSensors 24 = .ok (.invokestatic 50, 3) := by decide +kernel
theorem dX0_conditionSensors_27 : decode cX0_conditionSensors 27 = .ok (.ifCond .eq 16, 3) := by decide +kernel
theorem dX0_conditionSensors_30 : decode cX0_conditionSensors 30 = .ok (.aload_n 0, 1) := by decide +kernel
theorem dX0_conditionSensors_31 : decode cX0_conditionSensors 31 = .ok (.getfield 30, 3) := by decide +kernel
theorem dX0_conditionSensors_34 : decode cX0_conditionSensors 34 = .ok (.iload_n 1, 1) := by decide +kernel
theorem dX0_conditionSensors_35 : decode cX0_conditionSensors 35 = .ok (.dup2, 1) := by decide +kernel
theorem dX0_conditionSensors_36 : decode cX0_conditionSensors 36 = .ok (.iaload, 1) := by decide +kernel
theorem dX0_conditionSensors_37 : decode cX0_conditionSensors 37 = .ok (.iconst 1, 1) := by decide +kernel
theorem dX0_conditionSensors_38 : decode cX0_conditionSensors 38 = .ok (.iadd, 1) := by decide +kernel
theorem dX0_conditionSensors_39 : decode cX0_conditionSensors 39 = .ok (.iastore, 1) := by decide +kernel
theorem dX0_conditionSensors_40 : decode cX0_conditionSensors 40 = .ok (.goto 22, 3) := by decide +kernel
theorem dX0_conditionSensors_43 : decode cX0_conditionSensors 43 = .ok (.aload_n 0, 1) := by decide +kernel
theorem dX0_conditionSensors_44 : decode cX0_conditionSensors 44 = .ok (.getfield 30, 3) := by decide +kernel
theorem dX0_conditionSensors_47 : decode cX0_conditionSensors 47 = .ok (.iload_n 1, 1) := by decide +kernel
theorem dX0_conditionSensors_48 : decode cX0_conditionSensors 48 = .ok (.iconst 0, 1) := by decide +kernel
theorem dX0_conditionSensors_49 : decode cX0_conditionSensors 49 = .ok (.iastore, 1) := by decide +kernel
theorem dX0_conditionSensors_50 : decode cX0_conditionSensors 50 = .ok (.aload_n 0, 1) := by decide +kernel
theorem dX0_conditionSensors_51 : decode cX0_conditionSensors 51 = .ok (.getfield 27, 3) := by decide +kernel
theorem dX0_conditionSensors_54 : decode cX0_conditionSensors 54 = .ok (.iload_n 1, 1) := by decide +kernel
theorem dX0_conditionSensors_55 : decode cX0_conditionSensors 55 = .ok (.aload_n 0, 1) := by decide +kernel
theorem dX0_conditionSensors_56 : decode cX0_conditionSensors 56 = .ok (.getfield 24, 3) := by decide +kernel
theorem dX0_conditionSensors_59 : decode cX0_conditionSensors 59 = .ok (.iload_n 1, 1) := by decide +kernel
theorem dX0_conditionSensors_60 : decode cX0_conditionSensors 60 = .ok (.iaload, 1) := by decide +kernel
theorem dX0_conditionSensors_61 : decode cX0_conditionSensors 61 = .ok (.iastore, 1) := by decide +kernel
theorem dX0_conditionSensors_62 : decode cX0_conditionSensors 62 = .ok (.iinc 1 1, 3) := by decide +kernel
theorem dX0_conditionSensors_65 : decode cX0_conditionSensors 65 = .ok (.goto (-63), 3) := by decide +kernel
theorem dX0_conditionSensors_68 : decode cX0_conditionSensors 68 = .ok (.return_, 1) := by decide +kernel
set_option maxRecDepth 20000 in
theorem ggX0_countTicksInARow_X0_isConnected : GoodIn wsX0_countTicksInARow wsX0_isConnected := goodIn_r _ [11, 12, 24, 25, 26, 27, 28, 29, 30, 31, 32, 33, 34, 35, 36, 37, 38, 39, 40, 41] (by decide +kernel) (by decide +kernel)
set_option maxRecDepth 20000 in
theorem gX0_countTicksInARow_X0_isConnected : GoodIn wsX0_countTicksInARow (wsV RX0 124 RX0 yX0_isConnected wsX0_isConnected) := goodIn_app (goodIn_of _ (by decide +kernel)) ggX0_countTicksInARow_X0_isConnected
set_option maxRecDepth 20000 in
theorem ggX0_countTicksInARow_X0_isOutside : GoodIn wsX0_countTicksInARow wsX0_isOutside := goodIn_r _ [15] (by decide +kernel) (by decide +kernel)
set_option maxRecDepth 20000 in
theorem gX0_countTicksInARow_X0_isOutside : GoodIn wsX0_countTicksInARow (va_wsS RX0 50 yX0_isOutside wsX0_isOutside) := goodIn_app (goodIn_of _ (by decide +kernel)) ggX0_countTicksInARow_X0_isOutside
set_option maxRecDepth 20000 in
theorem ggX0_countTicksInARow_X0_isFluidOff : GoodIn wsX0_countTicksInARow wsX0_isFluidOff := goodIn_r _ [19, 1, 2, 20, 21, 22, 23, 24, 25, 26, 27, 28, 29, 30, 31, 32, 33, 34, 35, 36, 37, 38, 39, 40, 41] (by decide +kernel) (by decide +kernel)
set_option maxRecDepth 20000 in
theorem gX0_countTicksInARow_X0_isFluidOff : GoodIn wsX0_countTicksInARow (wsV RX0 127 RX0 yX0_isFluidOff wsX0_isFluidOff) := goodIn_app (goodIn_of _ (by decide +kernel)) ggX0_countTicksInARow_X0_isFluidOff
theorem dX0_countTicksInARow_0 : decode cX0_countTicksInARow 0 = .ok (.aload_n 0, 1) := by decide +kernel
theorem dX0_countTicksInARow_1 : decode cX0_countTicksInARow 1 = .ok (.invokevirtual 124, 3) := by decide +kernel
theorem dX0_countTicksInARow_4 : decode cX0_countTicksInARow 4 = .ok (.istore_n 1, 1) := by decide +kernel
theorem dX0_countTicksInARow_5 : decode cX0_countTicksInARow 5 = .ok (.aload_n 0, 1) := by decide +kernel
theorem dX0_countTicksInARow_6 : decode cX0_countTicksInARow 6 = .ok (.getfield 27, 3) := by decide +kernel
theorem dX0_countTicksInARow_9 : decode cX0_countTicksInARow 9 = .ok (.iconst 0, 1) := by decide +kernel
theorem dX0_countTicksInARow_10 : decode cX0_countTicksInARow 10 = .ok (.iaload, 1) := by decide +kernel
theorem dX0_countTicksInARow_11 : decode cX0_countTicksInARow 11 = .ok (.aload_n 0, 1) := by decide +kernel
theorem dX0_countTicksInARow_12 : decode cX0_countTicksInARow 12 = .ok (.getfield 18, 3) := by decide +kernel
theorem dX0_countTicksInARow_15 : decode cX0_countTicksInARow 15 = .ok (.bipush 6, 2) := by decide +kernel
theorem dX0_countTicksInARow_17 : decode cX0_countTicksInARow 17 = .ok (.iaload, 1) := by decide +kernel
theorem dX0_countTicksInARow_18 : decode cX0_countTicksInARow 18 = .ok (.aload_n 0, 1) := by decide +kernel
theorem dX0_countTicksInARow_19 : decode cX0_countTicksInARow 19 = .ok (.getfield 18, 3) := by decide +kernel
theorem dX0_countTicksInARow_22 : decode cX0_countTicksInARow 22 = .ok (.bipush 7, 2) := by decide +kernel
theorem dX0_countTicksInARow_24 : decode cX0_countTicksInARow 24 = .ok (.iaload, 1) := by decide +kernel
theorem dX0_countTicksInARow_25 : decode cX0_countTicksInARow 25 = .ok (.invokestatic 50, 3) := by decide +kernel
theorem dX0_countTicksInARow_28 : decode cX0_countTicksInARow 28 = .ok (.istore_n 2, 1) := by decide +kernel
theorem dX0_countTicksInARow_29 : decode cX0_countTicksInARow 29 = .ok (.aload_n 0, 1) := by decide +kernel
theorem dX0_countTicksInARow_30 : decode cX0_countTicksInARow 30 = .ok (.getfield 27, 3) := by decide +kernel
theorem dX0_countTicksInARow_33 : decode cX0_countTicksInARow 33 = .ok (.iconst 1, 1) := by decide +kernel
theorem dX0_countTicksInARow_34 : decode cX0_countTicksInARow 34 = .ok (.iaload, 1) := by decide +kernel
theorem dX0_countTicksInARow_35 : decode cX0_countTicksInARow 35 = .ok (.aload_n 0, 1) := by decide +kernel
theorem dX0_countTicksInARow_36 : decode cX0_countTicksInARow 36 = .ok (.getfield 18, 3) := by decide +kernel
theorem dX0_countTicksInARow_39 : decode cX0_countTicksInARow 39 = .ok (.bipush 8, 2) := by decide +kernel
theorem dX0_countTicksInARow_41 : decode cX0_countTicksInARow 41 = .ok (.iaload, 1) := by decide +kernel
theorem dX0_countTicksInARow_42 : decode cX0_countTicksInARow 42 = .ok (.aload_n 0, 1) := by decide +kernel
theorem dX0_countTicksInARow_43 : decode cX0_countTicksInARow 43 = .ok (.getfield 18, 3) := by decide +kernel
theorem dX0_countTicksInARow_46 : decode cX0_countTicksInARow 46 = .ok (.bipush 9, 2) := by decide +kernel
theorem dX0_countTicksInARow_48 : decode cX0_countTicksInARow 48 = .ok (.iaload, 1) := by decide +kernel
theorem dX0_countTicksInARow_49 : decode cX0_countTicksInARow 49 = .ok (.invokestatic 50, 3) := by decide +kernel
theorem dX0_countTicksInARow_52 : decode cX0_countTicksInARow 52 = .ok (.istore_n 3, 1) := by decide +kernel
theorem dX0_countTicksInARow_53 : decode cX0_countTicksInARow 53 = .ok (.aload_n 0, 1) := by decide +kernel
theorem dX0_countTicksInARow_54 : decode cX0_countTicksInARow 54 = .ok (.invokevirtual 127, 3) := by decide +kernel
theorem dX0_countTicksInARow_57 : decode cX0_countTicksInARow 57 = .ok (.istore 4, 2) := by decide +kernel
theorem dX0_countTicksInARow_59 : decode cX0_countTicksInARow 59 = .ok (.aload_n 0, 1) := by decide +kernel
theorem dX0_countTicksInARow_60 : decode cX0_countTicksInARow 60 = .ok (.iload_n 1, 1) := by decide +kernel
theorem dX0_countTicksInARow_61 : decode cX0_countTicksInARow 61 = .ok (.ifCond .eq 16, 3) := by decide +kernel
theorem dX0_countTicksInARow_64 : decode cX0_countTicksInARow 64 = .ok (.iload_n 2, 1) := by decide +kernel
theorem dX0_countTicksInARow_65 : decode cX0_countTicksInARow 65 = .ok (.ifCond .eq 12, 3) := by decide +kernel
theorem dX0_countTicksInARow_68 : decode cX0_countTicksInARow 68 = .ok (.aload_n 0, 1) := by decide +kernel
theorem dX0_countTicksInARow_69 : decode cX0_countTicksInARow 69 = .ok (.getfield 130, 3) := by decide +kernel
theorem dX0_countTicksInARow_72 : decode cX0_countTicksInARow 72 = .ok (.iconst 1, 1) := by decide +kernel
theorem dX0_countTicksInARow_73 : decode cX0_countTicksInARow 73 = .ok (.iadd, 1) := by decide +kernel
theorem dX0_countTicksInARow_74 : decode cX0_countTicksInARow 74 = .ok (.goto 4, 3) := by decide +kernel
theorem dX0_countTicksInARow_77 : decode cX0_countTicksInARow 77 = .ok (.iconst 0, 1) := by decide +kernel
theorem dX0_countTicksInARow_78 : decode cX0_countTicksInARow 78 = .ok (.putfield 130, 3) := by decide +kernel
theorem dX0_countTicksInARow_81 : decode cX0_countTicksInARow 81 = .ok (.aload_n 0, 1) := by decide +kernel
theorem dX0_countTicksInARow_82 : decode cX0_countTicksInARow 82 = .ok (.iload_n 1, 1) := by decide +kernel
theorem dX0_countTicksInARow_83 : decode cX0_countTicksInARow 83 = .ok (.ifCond .eq 16, 3) := by decide +kernel
theorem dX0_countTicksInARow_86 : decode cX0_countTicksInARow 86 = .ok (.iload_n 3, 1) := by decide +kernel
theorem dX0_countTicksInARow_87 : decode cX0_countTicksInARow 87 = .ok (.ifCond .eq 12, 3) := by decide +kernel
theorem dX0_countTicksInARow_90 : decode cX0_countTicksInARow 90 = .ok (.aload_n 0, 1) := by decide +kernel
theorem dX0_countTicksInARow_91 : decode cX0_countTicksInARow 91 = .ok (.getfield 133, 3) := by decide +kernel
theorem dX0_countTicksInARow_94 : decode cX0_countTicksInARow 94 = .ok (.iconst 1, 1) := by decide +kernel
theorem dX0_countTicksInARow_95 : decode cX0_countTicksInARow 95 = .ok (.iadd, 1) := by decide +kernel
theorem dX0_countTicksInARow_96 : decode cX0_countTicksInARow 96 = .ok (.goto 4, 3) := by decide +kernel
theorem dX0_countTicksInARow_99 : decode cX0_countTicksInARow 99 = .ok (.iconst 0, 1) := by decide +kernel
theorem dX0_countTicksInARow_100 : decode cX0_countTicksInARow 100 = .ok (.putfield 133, 3) := by decide +kernel
theorem dX0_countTicksInARow_103 : decode cX0_countTicksInARow 103 = .ok (.aload_n 0, 1) := by decide +kernel
theorem dX0_countTicksInARow_104 : decode cX0_countTicksInARow 104 = .ok (.iload 4, 2) := by decide +kernel
theorem dX0_countTicksInARow_106 : decode cX0_countTicksInARow 106 = .ok (.ifCond .eq 12, 3) := by decide +kernel
theorem dX0_countTicksInARow_109 : decode cX0_countTicksInARow 109 = .ok (.aload_n 0, 1) := by decide +kernel
theorem dX0_countTicksInARow_110 : decode cX0_countTicksInARow 110 = .ok (.getfield 136, 3) := by decide +kernel
theorem dX0_countTicksInARow_113 : decode cX0_countTicksInARow 113 = .ok (.iconst 1, 1) := by decide +kernel
theorem dX0_countTicksInARow_114 : decode cX0_countTicksInARow 114 = .ok (.iadd, 1) := by decide +kernel
theorem dX0_countTicksInARow_115 : decode cX0_countTicksInARow 115 = .ok (.goto 4, 3) := by decide +kernel
theorem dX0_countTicksInARow_118 : decode cX0_countTicksInARow 118 = .ok (.iconst 0, 1) := by decide +kernel
theorem dX0_countTicksInARow_119 : decode cX0_countTicksInARow 119 = .ok (.putfield 136, 3) := by decide +kernel
theorem dX0_countTicksInARow_122 : decode cX0_countTicksInARow 122 = .ok (.aload_n 0, 1) := by decide +kernel
theorem dX0_countTicksInARow_123 : decode cX0_countTicksInARow 123 = .ok (.iload 4, 2) := by decide +kernel
theorem dX0_countTicksInARow_125 : decode cX0_countTicksInARow 125 = .ok (.ifCond .eq 7, 3) := by decide +kernel
theorem dX0_countTicksInARow_128 : decode cX0_countTicksInARow 128 = .ok (.iconst 0, 1) := by decide +kernel
theorem dX0_countTicksInARow_129 : decode cX0_countTicksInARow 129 = .ok (.goto 9, 3) := by decide +kernel
theorem dX0_countTicksInARow_132 : decode cX0_countTicksInARow 132 = .ok (.aload_n 0, 1) := by decide +kernel
theorem dX0_countTicksInARow_133 : decode cX0_countTicksInARow 133 = .ok (.getfield 92, 3) := by decide +kernel
theorem dX0_countTicksInARow_136 : decode cX0_countTicksInARow 136 = .ok (.iconst 1, 1) := by decide +kernel
theorem dX0_countTicksInARow_137 : decode cX0_countTicksInARow 137 = .ok (.iadd, 1) := by decide +kernel
theorem dX0_countTicksInARow_138 : decode cX0_countTicksInARow 138 = .ok (.putfield 92, 3) := by decide +kernel
theorem dX0_countTicksInARow_141 : decode cX0_countTicksInARow 141 = .ok (.return_, 1) := by decide +kernel
theorem dX0_isConnected_0 : decode cX0_isConnected 0 = .ok (.aload_n 0, 1) := by decide +kernel
theorem dX0_isConnected_1 : decode cX0_isConnected 1 = .ok (.getfield 33, 3) := by decide +kernel
theorem dX0_isConnected_4 : decode cX0_isConnected 4 = .ok (.iconst 2, 1) := by decide +kernel
theorem dX0_isConnected_5 : decode cX0_isConnected 5 = .ok (.if_icmp .lt 15, 3) := by decide +kernel
theorem dX0_isConnected_8 : decode cX0_isConnected 8 = .ok (.aload_n 0, 1) := by decide +kernel
theorem dX0_isConnected_9 : decode cX0_isConnected 9 = .ok (.getfield 33, 3) := by decide +kernel
theorem dX0_isConnected_12 : decode cX0_isConnected 12 = .ok (.iconst 4, 1) := by decide +kernel
theorem dX0_isConnected_13 : decode cX0_isConnected 13 = .ok (.if_icmp .gt 7, 3) := by decide +kernel
theorem dX0_isConnected_16 : decode cX0_isConnected 16 = .ok (.iconst 1, 1) := by decide +kernel
theorem dX0_isConnected_17 : decode cX0_isConnected 17 = .ok (.goto 4, 3) := by decide +kernel
theorem dX0_isConnected_20 : decode cX0_isConnected 20 = .ok (.iconst 0, 1) := by decide +kernel
theorem dX0_isConnected_21 : decode cX0_isConnected 21 = .ok (.ireturn, 1) := by decide +kernel
theorem dX0_isFluidOff_0 : decode cX0_isFluidOff 0 = .ok (.aload_n 0, 1) := by decide +kernel
theorem dX0_isFluidOff_1 : decode cX0_isFluidOff 1 = .ok (.getfield 27, 3) := by decide +kernel
theorem dX0_isFluidOff_4 : decode cX0_isFluidOff 4 = .ok (.iconst 2, 1) := by decide +kernel
theorem dX0_isFluidOff_5 : decode cX0_isFluidOff 5 = .ok (.iaload, 1) := by decide +kernel
theorem dX0_isFluidOff_6 : decode cX0_isFluidOff 6 = .ok (.aload_n 0, 1) := by decide +kernel
theorem dX0_isFluidOff_7 : decode cX0_isFluidOff 7 = .ok (.getfield 18, 3) := by decide +kernel
theorem dX0_isFluidOff_10 : decode cX0_isFluidOff 10 = .ok (.iconst 4, 1) := by decide +kernel
theorem dX0_isFluidOff_11 : decode cX0_isFluidOff 11 = .ok (.iaload, 1) := by decide +kernel
theorem dX0_isFluidOff_12 : decode cX0_isFluidOff 12 = .ok (.isub, 1) := by decide +kernel
theorem dX0_isFluidOff_13 : decode cX0_isFluidOff 13 = .ok (.invokestatic 139, 3) := by decide +kernel
theorem dX0_isFluidOff_16 : decode cX0_isFluidOff 16 = .ok (.iconst 5, 1) := by decide +kernel
theorem dX0_isFluidOff_17 : decode cX0_isFluidOff 17 = .ok (.if_icmp .gt 24, 3) := by decide +kernel
theorem dX0_isFluidOff_20 : decode cX0_isFluidOff 20 = .ok (.aload_n 0, 1) := by decide +kernel
theorem dX0_isFluidOff_21 : decode cX0_isFluidOff 21 = .ok (.getfield 27, 3) := by decide +kernel
theorem dX0_isFluidOff_24 : decode cX0_isFluidOff 24 = .ok (.iconst 3, 1) := by decide +kernel
theorem dX0_isFluidOff_25 : decode cX0_isFluidOff 25 = .ok (.iaload, 1) := by decide +kernel
theorem dX0_isFluidOff_26 : decode cX0_isFluidOff 26 = .ok (.aload_n 0, 1) := by decide +kernel
theorem dX0_isFluidOff_27 : decode cX0_isFluidOff 27 = .ok (.getfield 18, 3) := by decide +kernel
theorem dX0_isFluidOff_30 : decode cX0_isFluidOff 30 = .ok (.iconst 5, 1) := by decide +kernel
theorem dX0_isFluidOff_31 : decode cX0_isFluidOff 31 = .ok (.iaload, 1) := by decide +kernel
theorem dX0_isFluidOff_32 : decode cX0_isFluidOff 32 = .ok (.isub, 1) := by decide +kernel
theorem dX0_isFluidOff_33 : decode cX0_isFluidOff 33 = .ok (.invokestatic 139, 3) := by decide +kernel
theorem dX0_isFluidOff_36 : decode cX0_isFluidOff 36 = .ok (.bipush 40, 2) := by decide +kernel
theorem dX0_isFluidOff_38 : decode cX0_isFluidOff 38 = .ok (.if_icmp .le 7, 3) := by decide +kernel
theorem dX0_isFluidOff_41 : decode cX0_isFluidOff 41 = .ok (.iconst 1, 1) := by decide +kernel
theorem dX0_isFluidOff_42 : decode cX0_isFluidOff 42 = .ok (.goto 4, 3) := by decide +kernel
theorem dX0_isFluidOff_45 : decode cX0_isFluidOff 45 = .ok (.iconst 0, 1) := by decide +kernel
theorem dX0_isFluidOff_46 : decode cX0_isFluidOff 46 = .ok (.ireturn, 1) := by decide +kernel
set_option maxRecDepth 20000 in
theorem ggX0_conditionsNow_X0_isConnected : GoodIn wsX0_conditionsNow wsX0_isConnected := goodIn_r _ [10, 4, 16, 17, 18, 19, 20, 21, 22, 23, 24, 25, 26, 27, 28, 29, 30, 31, 32, 33] (by decide +kernel) (by decide +kernel)
set_option maxRecDepth 20000 in
theorem gX0_conditionsNow_X0_isConnected : GoodIn wsX0_conditionsNow (wsV RX0 124 RX0 yX0_isConnected wsX0_isConnected) := goodIn_app (goodIn_of _ (by decide +kernel)) ggX0_conditionsNow_X0_isConnected
set_option maxRecDepth 20000 in
theorem ggX0_conditionsNow_X0_isSomeSensorFaulty : GoodIn wsX0_conditionsNow wsX0_isSomeSensorFaulty := goodIn_r _ [14, 15, 16, 17, 18, 19, 20, 21, 22, 23, 24, 25, 26, 27, 28, 29, 30, 31, 32, 33] (by decide +kernel) (by decide +kernel)
set_option maxRecDepth 20000 in
theorem gX0_conditionsNow_X0_isSomeSensorFaulty : GoodIn wsX0_conditionsNow (wsV RX0 144 RX0 yX0_isSomeSensorFaulty wsX0_isSomeSensorFaulty) := goodIn_app (goodIn_of _ (by decide +kernel)) ggX0_conditionsNow_X0_isSomeSensorFaulty
theorem dX0_conditionsNow_0 : decode cX0_conditionsNow 0 = .ok (.aload_n 0, 1) := by decide +kernel
theorem dX0_conditionsNow_1 : decode cX0_conditionsNow 1 = .ok (.getfield 130, 3) := by decide +kernel
theorem dX0_conditionsNow_4 : decode cX0_conditionsNow 4 = .ok (.bipush 30, 2) := by decide +kernel
theorem dX0_conditionsNow_6 : decode cX0_conditionsNow 6 = .ok (.if_icmp .lt 7, 3) := by decide +kernel
theorem dX0_conditionsNow_9 : decode cX0_conditionsNow 9 = .ok (.iconst 1, 1) := by decide +kernel
theorem dX0_conditionsNow_10 : decode cX0_conditionsNow 10 = .ok (.goto 4, 3) := by decide +kernel
theorem dX0_conditionsNow_13 : decode cX0_conditionsNow 13 = .ok (.iconst 0, 1) := by decide +kernel
theorem dX0_conditionsNow_14 : decode cX0_conditionsNow 14 = .ok (.aload_n 0, 1) := by decide +kernel
theorem dX0_conditionsNow_15 : decode cX0_conditionsNow 15 = .ok (.getfield 133, 3) := by decide +kernel
theorem dX0_conditionsNow_18 : decode cX0_conditionsNow 18 = .ok (.bipush 30, 2) := by decide +kernel
theorem dX0_conditionsNow_20 : decode cX0_conditionsNow 20 = .ok (.if_icmp .lt 7, 3) := by decide +kernel
theorem dX0_conditionsNow_23 : decode cX0_conditionsNow 23 = .ok (.iconst 2, 1) := by decide +kernel
theorem dX0_conditionsNow_24 : decode cX0_conditionsNow 24 = .ok (.goto 4, 3) := by decide +kernel
theorem dX0_conditionsNow_27 : decode cX0_conditionsNow 27 = .ok (.iconst 0, 1) := by decide +kernel
theorem dX0_conditionsNow_28 : decode cX0_conditionsNow 28 = .ok (.ior, 1) := by decide +kernel
theorem dX0_conditionsNow_29 : decode cX0_conditionsNow 29 = .ok (.aload_n 0, 1) := by decide +kernel
theorem dX0_conditionsNow_30 : decode cX0_conditionsNow 30 = .ok (.invokevirtual 124, 3) := by decide +kernel
theorem dX0_conditionsNow_33 : decode cX0_conditionsNow 33 = .ok (.ifCond .eq 17, 3) := by decide +kernel
theorem dX0_conditionsNow_36 : decode cX0_conditionsNow 36 = .ok (.aload_n 0, 1) := by decide +kernel
theorem dX0_conditionsNow_37 : decode cX0_conditionsNow 37 = .ok (.getfield 27, 3) := by decide +kernel
theorem dX0_conditionsNow_40 : decode cX0_conditionsNow 40 = .ok (.iconst 4, 1) := by decide +kernel
theorem dX0_conditionsNow_41 : decode cX0_conditionsNow 41 = .ok (.iaload, 1) := by decide +kernel
theorem dX0_conditionsNow_42 : decode cX0_conditionsNow 42 = .ok (.iconst 1, 1) := by decide +kernel
theorem dX0_conditionsNow_43 : decode cX0_conditionsNow 43 = .ok (.if_icmp .ne 7, 3) := by decide +kernel
theorem dX0_conditionsNow_46 : decode cX0_conditionsNow 46 = .ok (.iconst 4, 1) := by decide +kernel
theorem dX0_conditionsNow_47 : decode cX0_conditionsNow 47 = .ok (.goto 4, 3) := by decide +kernel
theorem dX0_conditionsNow_50 : decode cX0_conditionsNow 50 = .ok (.iconst 0, 1) := by decide +kernel
theorem dX0_conditionsNow_51 : decode cX0_conditionsNow 51 = .ok (.ior, 1) := by decide +kernel
theorem dX0_conditionsNow_52 : decode cX0_conditionsNow 52 = .ok (.aload_n 0, 1) := by decide +kernel
theorem dX0_conditionsNow_53 : decode cX0_conditionsNow 53 = .ok (.getfield 33, 3) := by decide +kernel
theorem dX0_conditionsNow_56 : decode cX0_conditionsNow 56 = .ok (.iconst 3, 1) := by decide +kernel
theorem dX0_conditionsNow_57 : decode cX0_conditionsNow 57 = .ok (.if_icmp .ne 18, 3) := by decide +kernel
theorem dX0_conditionsNow_60 : decode cX0_conditionsNow 60 = .ok (.aload_n 0, 1) := by decide +kernel
theorem dX0_conditionsNow_61 : decode cX0_conditionsNow 61 = .ok (.getfield 27, 3) := by decide +kernel
theorem dX0_conditionsNow_64 : decode cX0_conditionsNow 64 = .ok (.iconst 5, 1) := by decide +kernel
theorem dX0_conditionsNow_65 : decode cX0_conditionsNow 65 = .ok (.iaload, 1) := by decide +kernel
theorem dX0_conditionsNow_66 : decode cX0_conditionsNow 66 = .ok (.iconst 1, 1) := by decide +kernel
theorem dX0_conditionsNow_67 : decode cX0_conditionsNow 67 = .ok (.if_icmp .ne 8, 3) := by decide +kernel
theorem dX0_conditionsNow_70 : decode cX0_conditionsNow 70 = .ok (.bipush 8, 2) := by decide +kernel
theorem dX0_conditionsNow_72 : decode cX0_conditionsNow 72 = .ok (.goto 4, 3) := by decide +kernel
theorem dX0_conditionsNow_75 : decode cX0_conditionsNow 75 = .ok (.iconst 0, 1) := by decide +kernel
theorem dX0_conditionsNow_76 : decode cX0_conditionsNow 76 = .ok (.ior, 1) := by decide +kernel
theorem dX0_conditionsNow_77 : decode cX0_conditionsNow 77 = .ok (.aload_n 0, 1) := by decide +kernel
theorem dX0_conditionsNow_78 : decode cX0_conditionsNow 78 = .ok (.getfield 136, 3) := by decide +kernel
theorem dX0_conditionsNow_81 : decode cX0_conditionsNow 81 = .ok (.sipush 600, 3) := by decide +kernel
theorem dX0_conditionsNow_84 : decode cX0_conditionsNow 84 = .ok (.if_icmp .lt 8, 3) := by decide +kernel
theorem dX0_conditionsNow_87 : decode cX0_conditionsNow 87 = .ok (.bipush 16, 2) := by decide +kernel
theorem dX0_conditionsNow_89 : decode cX0_conditionsNow 89 = .ok (.goto 4, 3) := by decide +kernel
theorem dX0_conditionsNow_92 : decode cX0_conditionsNow 92 = .ok (.iconst 0, 1) := by decide +kernel
theorem dX0_conditionsNow_93 : decode cX0_conditionsNow 93 = .ok (.ior, 1) := by decide +kernel
theorem dX0_conditionsNow_94 : decode cX0_conditionsNow 94 = .ok (.aload_n 0, 1) := by decide +kernel
theorem dX0_conditionsNow_95 : decode cX0_conditionsNow 95 = .ok (.invokevirtual 144, 3) := by decide +kernel
theorem dX0_conditionsNow_98 : decode cX0_conditionsNow 98 = .ok (.ifCond .eq 8, 3) := by decide +kernel
theorem dX0_conditionsNow_101 : decode cX0_conditionsNow 101 = .ok (.bipush 32, 2) := by decide +kernel
theorem dX0_conditionsNow_103 : decode cX0_conditionsNow 103 = .ok (.goto 4, 3) := by decide +kernel
theorem dX0_conditionsNow_106 : decode cX0_conditionsNow 106 = .ok (.iconst 0, 1) := by decide +kernel
theorem dX0_conditionsNow_107 : decode cX0_conditionsNow 107 = .ok (.ior, 1) := by decide +kernel
theorem dX0_conditionsNow_108 : decode cX0_conditionsNow 108 = .ok (.ireturn, 1) := by decide +kernel
theorem dX0_isSomeSensorFaulty_0 : decode cX0_isSomeSensorFaulty 0 = .ok (.iconst 0, 1) := by decide +kernel
theorem dX0_isSomeSensorFaulty_1 : decode cX0_isSomeSensorFaulty 1 = .ok (.istore_n 1, 1) := by decide +kernel
theorem dX0_isSomeSensorFaulty_2 : decode cX0_isSomeSensorFaulty 2 = .ok (.iload_n 1, 1) := by decide +kernel
theorem dX0_isSomeSensorFaulty_3 : decode cX0_isSomeSensorFaulty 3 = .ok (.bipush 6, 2) := by decide +kernel
theorem dX0_isSomeSensorFaulty_5 : decode cX0_isSomeSensorFaulty 5 = .ok (.if_icmp .ge 21, 3) := by decide +kernel
theorem dX0_isSomeSensorFaulty_8 : decode cX0_isSomeSensorFaulty 8 = .ok (.aload_n 0, 1) := by decide +kernel
theorem dX0_isSomeSensorFaulty_9 : decode cX0_isSomeSensorFaulty 9 = .ok (.getfield 30, 3) := by decide +kernel
theorem dX0_isSomeSensorFaulty_12 : decode cX0_isSomeSensorFaulty 12 = .ok (.iload_n 1, 1) := by decide +kernel
theorem dX0_isSomeSensorFaulty_13 : decode cX0_isSomeSensorFaulty 13 = .ok (.iaload, 1) := by decide +kernel
theorem dX0_isSomeSensorFaulty_14 : decode cX0_isSomeSensorFaulty 14 = .ok (.iconst 3, 1) := by decide +kernel
theorem dX0_isSomeSensorFaulty_15 : decode cX0_isSomeSensorFaulty 15 = .ok (.if_icmp .lt 5, 3) := by decide +kernel
theorem dX0_isSomeSensorFaulty_18 : decode cX0_isSomeSensorFaulty 18 = .ok (.iconst 1, 1) := by decide +kernel
theorem dX0_isSomeSensorFaulty_19 : decode cX0_isSomeSensorFaulty 19 = .ok (.ireturn, 1) := by decide +kernel
theorem dX0_isSomeSensorFaulty_20 : decode cX0_isSomeSensorFaulty 20 = .ok (.iinc 1 1, 3) := by decide +kernel
theorem dX0_isSomeSensorFaulty_23 : decode cX0_isSomeSensorFaulty 23 = .ok (.goto (-21), 3) := by decide +kernel
theorem dX0_isSomeSensorFaulty_26 : decode cX0_isSomeSensorFaulty 26 = .ok (.iconst 0, 1) := by decide +kernel
theorem dX0_isSomeSensorFaulty_27 : decode cX0_isSomeSensorFaulty 27 = .ok (.ireturn, 1) := by decide +kernel
set_option maxRecDepth 20000 in
theorem ggX0_commandsOfControl_X0_isStrokeWanted : GoodIn wsX0_commandsOfControl wsX0_isStrokeWanted := goodIn_r _ [10, 11, 12, 4, 5, 13, 14, 15, 9, 16, 17, 18, 19, 20, 21, 22, 23, 24, 25, 26, 27, 28, 29, 30, 31, 32, 33, 34] (by decide +kernel) (by decide +kernel)
set_option maxRecDepth 20000 in
theorem gX0_commandsOfControl_X0_isStrokeWanted : GoodIn wsX0_commandsOfControl (wsV RX0 147 RX0 yX0_isStrokeWanted wsX0_isStrokeWanted) := goodIn_app (goodIn_of _ (by decide +kernel)) ggX0_commandsOfControl_X0_isStrokeWanted
theorem dX0_commandsOfControl_0 : decode cX0_commandsOfControl 0 = .ok (.aload_n 0, 1) := by decide +kernel
theorem dX0_commandsOfControl_1 : decode cX0_commandsOfControl 1 = .ok (.getfield 33, 3) := by decide +kernel
theorem dX0_commandsOfControl_4 : decode cX0_commandsOfControl 4 = .ok (.iconst 1, 1) := by decide +kernel
theorem dX0_commandsOfControl_5 : decode cX0_commandsOfControl 5 = .ok (.if_icmp .lt 15, 3) := by decide +kernel
theorem dX0_commandsOfControl_8 : decode cX0_commandsOfControl 8 = .ok (.aload_n 0, 1) := by decide +kernel
theorem dX0_commandsOfControl_9 : decode cX0_commandsOfControl 9 = .ok (.getfield 33, 3) := by decide +kernel
theorem dX0_commandsOfControl_12 : decode cX0_commandsOfControl 12 = .ok (.iconst 4, 1) := by decide +kernel
theorem dX0_commandsOfControl_13 : decode cX0_commandsOfControl 13 = .ok (.if_icmp .gt 7, 3) := by decide +kernel
theorem dX0_commandsOfControl_16 : decode cX0_commandsOfControl 16 = .ok (.iconst 1, 1) := by decide +kernel
theorem dX0_commandsOfControl_17 : decode cX0_commandsOfControl 17 = .ok (.goto 4, 3) := by decide +kernel
theorem dX0_commandsOfControl_20 : decode cX0_commandsOfControl 20 = .ok (.iconst 0, 1) := by decide +kernel
theorem dX0_commandsOfControl_21 : decode cX0_commandsOfControl 21 = .ok (.istore_n 1, 1) := by decide +kernel
theorem dX0_commandsOfControl_22 : decode cX0_commandsOfControl 22 = .ok (.iload_n 1, 1) := by decide +kernel
theorem dX0_commandsOfControl_23 : decode cX0_commandsOfControl 23 = .ok (.ifCond .eq 17, 3) := by decide +kernel
theorem dX0_commandsOfControl_26 : decode cX0_commandsOfControl 26 = .ok (.aload_n 0, 1) := by decide +kernel
theorem dX0_commandsOfControl_27 : decode cX0_commandsOfControl 27 = .ok (.getfield 65, 3) := by decide +kernel
theorem dX0_commandsOfControl_30 : decode cX0_commandsOfControl 30 = .ok (.bipush 47, 2) := by decide +kernel
theorem dX0_commandsOfControl_32 : decode cX0_commandsOfControl 32 = .ok (.iand, 1) := by decide +kernel
theorem dX0_commandsOfControl_33 : decode cX0_commandsOfControl 33 = .ok (.ifCond .ne 7, 3) := by decide +kernel
theorem dX0_commandsOfControl_36 : decode cX0_commandsOfControl 36 = .ok (.iconst 1, 1) := by decide +kernel
theorem dX0_commandsOfControl_37 : decode cX0_commandsOfControl 37 = .ok (.goto 4, 3) := by decide +kernel
theorem dX0_commandsOfControl_40 : decode cX0_commandsOfControl 40 = .ok (.iconst 0, 1) := by decide +kernel
theorem dX0_commandsOfControl_41 : decode cX0_commandsOfControl 41 = .ok (.istore_n 2, 1) := by decide +kernel
theorem dX0_commandsOfControl_42 : decode cX0_commandsOfControl 42 = .ok (.iload_n 1, 1) := by decide +kernel
theorem dX0_commandsOfControl_43 : decode cX0_commandsOfControl 43 = .ok (.ifCond .eq 17, 3) := by decide +kernel
theorem dX0_commandsOfControl_46 : decode cX0_commandsOfControl 46 = .ok (.aload_n 0, 1) := by decide +kernel
theorem dX0_commandsOfControl_47 : decode cX0_commandsOfControl 47 = .ok (.getfield 65, 3) := by decide +kernel
theorem dX0_commandsOfControl_50 : decode cX0_commandsOfControl 50 = .ok (.bipush 38, 2) := by decide +kernel
theorem dX0_commandsOfControl_52 : decode cX0_commandsOfControl 52 = .ok (.iand, 1) := by decide +kernel
theorem dX0_commandsOfControl_53 : decode cX0_commandsOfControl 53 = .ok (.ifCond .ne 7, 3) := by decide +kernel
theorem dX0_commandsOfControl_56 : decode cX0_commandsOfControl 56 = .ok (.iconst 1, 1) := by decide +kernel
theorem dX0_commandsOfControl_57 : decode cX0_commandsOfControl 57 = .ok (.goto 4, 3) := by decide +kernel
theorem dX0_commandsOfControl_60 : decode cX0_commandsOfControl 60 = .ok (.iconst 0, 1) := by decide +kernel
theorem dX0_commandsOfControl_61 : decode cX0_commandsOfControl 61 = .ok (.istore_n 3, 1) := by decide +kernel
theorem dX0_commandsOfControl_62 : decode cX0_commandsOfControl 62 = .ok (.aload_n 0, 1) := by decide +kernel
theorem dX0_commandsOfControl_63 : decode cX0_commandsOfControl 63 = .ok (.getfield 33, 3) := by decide +kernel
theorem dX0_commandsOfControl_66 : decode cX0_commandsOfControl 66 = .ok (.iconst 3, 1) := by decide +kernel
theorem dX0_commandsOfControl_67 : decode cX0_commandsOfControl 67 = .ok (.if_icmp .ne 20, 3) := by decide +kernel
theorem dX0_commandsOfControl_70 : decode cX0_commandsOfControl 70 = .ok (.aload_n 0, 1) := by decide +kernel
theorem dX0_commandsOfControl_71 : decode cX0_commandsOfControl 71 = .ok (.getfield 136, 3) := by decide +kernel
theorem dX0_commandsOfControl_74 : decode cX0_commandsOfControl 74 = .ok (.ifCond .gt 13, 3) := by decide +kernel
theorem dX0_commandsOfControl_77 : decode cX0_commandsOfControl 77 = .ok (.aload_n 0, 1) := by decide +kernel
theorem dX0_commandsOfControl_78 : decode cX0_commandsOfControl 78 = .ok (.getfield 65, 3) := by decide +kernel
theorem dX0_commandsOfControl_81 : decode cX0_commandsOfControl 81 = .ok (.bipush 8, 2) := by decide +kernel
theorem dX0_commandsOfControl_83 : decode cX0_commandsOfControl 83 = .ok (.iand, 1) := by decide +kernel
theorem dX0_commandsOfControl_84 : decode cX0_commandsOfControl 84 = .ok (.ifCond .eq 7, 3) := by decide +kernel
theorem dX0_commandsOfControl_87 : decode cX0_commandsOfControl 87 = .ok (.iconst 1, 1) := by decide +kernel
theorem dX0_commandsOfControl_88 : decode cX0_commandsOfControl 88 = .ok (.goto 4, 3) := by decide +kernel
theorem dX0_commandsOfControl_91 : decode cX0_commandsOfControl 91 = .ok (.iconst 0, 1) := by decide +kernel
theorem dX0_commandsOfControl_92 : decode cX0_commandsOfControl 92 = .ok (.istore 4, 2) := by decide +kernel
theorem dX0_commandsOfControl_94 : decode cX0_commandsOfControl 94 = .ok (.iconst 0, 1) := by decide +kernel
theorem dX0_commandsOfControl_95 : decode cX0_commandsOfControl 95 = .ok (.istore 5, 2) := by decide +kernel
theorem dX0_commandsOfControl_97 : decode cX0_commandsOfControl 97 = .ok (.iload_n 2, 1) := by decide +kernel
theorem dX0_commandsOfControl_98 : decode cX0_commandsOfControl 98 = .ok (.ifCond .eq 24, 3) := by decide +kernel
theorem dX0_commandsOfControl_101 : decode cX0_commandsOfControl 101 = .ok (.iload 4, 2) := by decide +kernel
theorem dX0_commandsOfControl_103 : decode cX0_commandsOfControl 103 = .ok (.ifCond .ne 19, 3) := by decide +kernel
theorem dX0_commandsOfControl_106 : decode cX0_commandsOfControl 106 = .ok (.aload_n 0, 1) := by decide +kernel
theorem dX0_commandsOfControl_107 : decode cX0_commandsOfControl 107 = .ok (.dup, 1) := by decide +kernel
theorem dX0_commandsOfControl_108 : decode cX0_commandsOfControl 108 = .ok (.getfield 77, 3) := by decide +kernel
theorem dX0_commandsOfControl_111 : decode cX0_commandsOfControl 111 = .ok (.iconst 1, 1) := by decide +kernel
theorem dX0_commandsOfControl_112 : decode cX0_commandsOfControl 112 = .ok (.iadd, 1) := by decide +kernel
theorem dX0_commandsOfControl_113 : decode cX0_commandsOfControl 113 = .ok (.putfield 77, 3) := by decide +kernel
theorem dX0_commandsOfControl_116 : decode cX0_commandsOfControl 116 = .ok (.aload_n 0, 1) := by decide +kernel
theorem dX0_commandsOfControl_117 : decode cX0_commandsOfControl 117 = .ok (.invokevirtual 147, 3) := by decide +kernel
theorem dX0_commandsOfControl_120 : decode cX0_commandsOfControl 120 = .ok (.istore 5, 2) := by decide +kernel
theorem dX0_commandsOfControl_122 : decode cX0_commandsOfControl 122 = .ok (.iload 5, 2) := by decide +kernel
theorem dX0_commandsOfControl_124 : decode cX0_commandsOfControl 124 = .ok (.ifCond .eq 15, 3) := by decide +kernel
theorem dX0_commandsOfControl_127 : decode cX0_commandsOfControl 127 = .ok (.aload_n 0, 1) := by decide +kernel
theorem dX0_commandsOfControl_128 : decode cX0_commandsOfControl 128 = .ok (.dup, 1) := by decide +kernel
theorem dX0_commandsOfControl_129 : decode cX0_commandsOfControl 129 = .ok (.getfield 80, 3) := by decide +kernel
theorem dX0_commandsOfControl_132 : decode cX0_commandsOfControl 132 = .ok (.sipush 500, 3) := by decide +kernel
theorem dX0_commandsOfControl_135 : decode cX0_commandsOfControl 135 = .ok (.iadd, 1) := by decide +kernel
theorem dX0_commandsOfControl_136 : decode cX0_commandsOfControl 136 = .ok (.putfield 80, 3) := by decide +kernel
theorem dX0_commandsOfControl_139 : decode cX0_commandsOfControl 139 = .ok (.iload_n 2, 1) := by decide +kernel
theorem dX0_commandsOfControl_140 : decode cX0_commandsOfControl 140 = .ok (.ifCond .eq 7, 3) := by decide +kernel
theorem dX0_commandsOfControl_143 : decode cX0_commandsOfControl 143 = .ok (.iconst 1, 1) := by decide +kernel
theorem dX0_commandsOfControl_144 : decode cX0_commandsOfControl 144 = .ok (.goto 4, 3) := by decide +kernel
theorem dX0_commandsOfControl_147 : decode cX0_commandsOfControl 147 = .ok (.iconst 0, 1) := by decide +kernel
theorem dX0_commandsOfControl_148 : decode cX0_commandsOfControl 148 = .ok (.iload_n 3, 1) := by decide +kernel
theorem dX0_commandsOfControl_149 : decode cX0_commandsOfControl 149 = .ok (.ifCond .eq 7, 3) := by decide +kernel
theorem dX0_commandsOfControl_152 : decode cX0_commandsOfControl 152 = .ok (.iconst 2, 1) := by decide +kernel
theorem dX0_commandsOfControl_153 : decode cX0_commandsOfControl 153 = .ok (.goto 4, 3) := by decide +kernel
theorem dX0_commandsOfControl_156 : decode cX0_commandsOfControl 156 = .ok (.iconst 0, 1) := by decide +kernel
theorem dX0_commandsOfControl_157 : decode cX0_commandsOfControl 157 = .ok (.ior, 1) := by decide +kernel
theorem dX0_commandsOfControl_158 : decode cX0_commandsOfControl 158 = .ok (.iload 4, 2) := by decide +kernel
theorem dX0_commandsOfControl_160 : decode cX0_commandsOfControl 160 = .ok (.ifCond .eq 7, 3) := by decide +kernel
theorem dX0_commandsOfControl_163 : decode cX0_commandsOfControl 163 = .ok (.iconst 4, 1) := by decide +kernel
theorem dX0_commandsOfControl_164 : decode cX0_commandsOfControl 164 = .ok (.goto 4, 3) := by decide +kernel
theorem dX0_commandsOfControl_167 : decode cX0_commandsOfControl 167 = .ok (.iconst 0, 1) := by decide +kernel
theorem dX0_commandsOfControl_168 : decode cX0_commandsOfControl 168 = .ok (.ior, 1) := by decide +kernel
theorem dX0_commandsOfControl_169 : decode cX0_commandsOfControl 169 = .ok (.iload 5, 2) := by decide +kernel
theorem dX0_commandsOfControl_171 : decode cX0_commandsOfControl 171 = .ok (.ifCond .eq 8, 3) := by decide +kernel
theorem dX0_commandsOfControl_174 : decode cX0_commandsOfControl 174 = .ok (.bipush 8, 2) := by decide +kernel
theorem dX0_commandsOfControl_176 : decode cX0_commandsOfControl 176 = .ok (.goto 4, 3) := by decide +kernel
theorem dX0_commandsOfControl_179 : decode cX0_commandsOfControl 179 = .ok (.iconst 0, 1) := by decide +kernel
theorem dX0_commandsOfControl_180 : decode cX0_commandsOfControl 180 = .ok (.ior, 1) := by decide +kernel
theorem dX0_commandsOfControl_181 : decode cX0_commandsOfControl 181 = .ok (.ireturn, 1) := by decide +kernel
set_option maxRecDepth 20000 in
theorem ggX0_isStrokeWanted_X0_ticksOfTreatment : GoodIn wsX0_isStrokeWanted wsX0_ticksOfTreatment := goodIn_r _ [9, 1, 10, 11, 12, 13, 14, 15, 16, 17, 18, 19, 20, 21, 22, 23, 24, 25, 26, 27] (by decide +kernel) (by decide +kernel)
set_option maxRecDepth 20000 in
theorem gX0_isStrokeWanted_X0_ticksOfTreatment : GoodIn wsX0_isStrokeWanted (wsV RX0 152 RX0 yX0_ticksOfTreatment wsX0_ticksOfTreatment) := goodIn_app (goodIn_of _ (by decide +kernel)) ggX0_isStrokeWanted_X0_ticksOfTreatment
theorem dX0_isStrokeWanted_0 : decode cX0_isStrokeWanted 0 = .ok (.aload_n 0, 1) := by decide +kernel
theorem dX0_isStrokeWanted_1 : decode cX0_isStrokeWanted 1 = .ok (.getfield 18, 3) := by decide +kernel
theorem dX0_isStrokeWanted_4 : decode cX0_isStrokeWanted 4 = .ok (.iconst 1, 1) := by decide +kernel
theorem dX0_isStrokeWanted_5 : decode cX0_isStrokeWanted 5 = .ok (.iaload, 1) := by decide +kernel
theorem dX0_isStrokeWanted_6 : decode cX0_isStrokeWanted 6 = .ok (.i2l, 1) := by decide +kernel
theorem dX0_isStrokeWanted_7 : decode cX0_isStrokeWanted 7 = .ok (.ldc2_w 150, 3) := by decide +kernel
theorem dX0_isStrokeWanted_10 : decode cX0_isStrokeWanted 10 = .ok (.lmul, 1) := by decide +kernel
theorem dX0_isStrokeWanted_11 : decode cX0_isStrokeWanted 11 = .ok (.aload_n 0, 1) := by decide +kernel
theorem dX0_isStrokeWanted_12 : decode cX0_isStrokeWanted 12 = .ok (.getfield 77, 3) := by decide +kernel
theorem dX0_isStrokeWanted_15 : decode cX0_isStrokeWanted 15 = .ok (.i2l, 1) := by decide +kernel
theorem dX0_isStrokeWanted_16 : decode cX0_isStrokeWanted 16 = .ok (.lmul, 1) := by decide +kernel
theorem dX0_isStrokeWanted_17 : decode cX0_isStrokeWanted 17 = .ok (.lstore_n 1, 1) := by decide +kernel
theorem dX0_isStrokeWanted_18 : decode cX0_isStrokeWanted 18 = .ok (.lload_n 1, 1) := by decide +kernel
theorem dX0_isStrokeWanted_19 : decode cX0_isStrokeWanted 19 = .ok (.aload_n 0, 1) := by decide +kernel
theorem dX0_isStrokeWanted_20 : decode cX0_isStrokeWanted 20 = .ok (.getfield 80, 3) := by decide +kernel
theorem dX0_isStrokeWanted_23 : decode cX0_isStrokeWanted 23 = .ok (.sipush 500, 3) := by decide +kernel
theorem dX0_isStrokeWanted_26 : decode cX0_isStrokeWanted 26 = .ok (.iadd, 1) := by decide +kernel
theorem dX0_isStrokeWanted_27 : decode cX0_isStrokeWanted 27 = .ok (.i2l, 1) := by decide +kernel
theorem dX0_isStrokeWanted_28 : decode cX0_isStrokeWanted 28 = .ok (.aload_n 0, 1) := by decide +kernel
theorem dX0_isStrokeWanted_29 : decode cX0_isStrokeWanted 29 = .ok (.invokevirtual 152, 3) := by decide +kernel
theorem dX0_isStrokeWanted_32 : decode cX0_isStrokeWanted 32 = .ok (.i2l, 1) := by decide +kernel
theorem dX0_isStrokeWanted_33 : decode cX0_isStrokeWanted 33 = .ok (.lmul, 1) := by decide +kernel
theorem dX0_isStrokeWanted_34 : decode cX0_isStrokeWanted 34 = .ok (.lcmp, 1) := by decide +kernel
theorem dX0_isStrokeWanted_35 : decode cX0_isStrokeWanted 35 = .ok (.ifCond .lt 7, 3) := by decide +kernel
theorem dX0_isStrokeWanted_38 : decode cX0_isStrokeWanted 38 = .ok (.iconst 1, 1) := by decide +kernel
theorem dX0_isStrokeWanted_39 : decode cX0_isStrokeWanted 39 = .ok (.goto 4, 3) := by decide +kernel
theorem dX0_isStrokeWanted_42 : decode cX0_isStrokeWanted 42 = .ok (.iconst 0, 1) := by decide +kernel
theorem dX0_isStrokeWanted_43 : decode cX0_isStrokeWanted 43 = .ok (.ireturn, 1) := by decide +kernel
theorem dX0_ticksOfTreatment_0 : decode cX0_ticksOfTreatment 0 = .ok (.sipush 600, 3) := by decide +kernel
theorem dX0_ticksOfTreatment_3 : decode cX0_ticksOfTreatment 3 = .ok (.aload_n 0, 1) := by decide +kernel
theorem dX0_ticksOfTreatment_4 : decode cX0_ticksOfTreatment 4 = .ok (.getfield 18, 3) := by decide +kernel
theorem dX0_ticksOfTreatment_7 : decode cX0_ticksOfTreatment 7 = .ok (.iconst 3, 1) := by decide +kernel
theorem dX0_ticksOfTreatment_8 : decode cX0_ticksOfTreatment 8 = .ok (.iaload, 1) := by decide +kernel
theorem dX0_ticksOfTreatment_9 : decode cX0_ticksOfTreatment 9 = .ok (.imul, 1) := by decide +kernel
theorem dX0_ticksOfTreatment_10 : decode cX0_ticksOfTreatment 10 = .ok (.ireturn, 1) := by decide +kernel
set_option maxRecDepth 20000 in
theorem ggX0_afterProtection_X0_isConnected : GoodIn wsX0_afterProtection wsX0_isConnected := goodIn_r _ [8, 2, 22, 23, 24, 25, 26, 27, 28, 29, 30, 31, 32, 33, 34, 35, 36, 37, 38, 39] (by decide +kernel) (by decide +kernel)
set_option maxRecDepth 20000 in
theorem gX0_afterProtection_X0_isConnected : GoodIn wsX0_afterProtection (wsV RX0 124 RX0 yX0_isConnected wsX0_isConnected) := goodIn_app (goodIn_of _ (by decide +kernel)) ggX0_afterProtection_X0_isConnected
set_option maxRecDepth 20000 in
theorem ggX0_afterProtection_X0_isRawDangerous : GoodIn wsX0_afterProtection wsX0_isRawDangerous := goodIn_r _ [12, 3, 13, 14, 7, 15, 22, 23, 24, 25, 26, 27, 28, 29, 30, 31, 32, 33, 34, 35, 36, 37, 38, 39] (by decide +kernel) (by decide +kernel)
set_option maxRecDepth 20000 in
theorem gX0_afterProtection_X0_isRawDangerous : GoodIn wsX0_afterProtection (wsV RX0 155 RX0 yX0_isRawDangerous wsX0_isRawDangerous) := goodIn_app (goodIn_of _ (by decide +kernel)) ggX0_afterProtection_X0_isRawDangerous
set_option maxRecDepth 20000 in
theorem ggX0_afterProtection_X0_isStrokeTooMuch : GoodIn wsX0_afterProtection wsX0_isStrokeTooMuch := goodIn_r _ [19, 20, 21, 22, 23, 24, 25, 26, 27, 28, 29, 30, 31, 32, 33, 34, 35, 36, 37, 38, 39] (by decide +kernel) (by decide +kernel)
set_option maxRecDepth 20000 in
theorem gX0_afterProtection_X0_isStrokeTooMuch : GoodIn wsX0_afterProtection (wsV RX0 158 RX0 yX0_isStrokeTooMuch wsX0_isStrokeTooMuch) := goodIn_app (goodIn_of _ (by decide +kernel)) ggX0_afterProtection_X0_isStrokeTooMuch
theorem dX0_afterProtection_0 : decode cX0_afterProtection 0 = .ok (.iload_n 1, 1) := by decide +kernel
theorem dX0_afterProtection_1 : decode cX0_afterProtection 1 = .ok (.istore_n 2, 1) := by decide +kernel
theorem dX0_afterProtection_2 : decode cX0_afterProtection 2 = .ok (.aload_n 0, 1) := by decide +kernel
theorem dX0_afterProtection_3 : decode cX0_afterProtection 3 = .ok (.invokevirtual 124, 3) := by decide +kernel
theorem dX0_afterProtection_6 : decode cX0_afterProtection 6 = .ok (.ifCond .eq 25, 3) := by decide +kernel
theorem dX0_afterProtection_9 : decode cX0_afterProtection 9 = .ok (.aload_n 0, 1) := by decide +kernel
theorem dX0_afterProtection_10 : decode cX0_afterProtection 10 = .ok (.invokevirtual 155, 3) := by decide +kernel
theorem dX0_afterProtection_13 : decode cX0_afterProtection 13 = .ok (.ifCond .eq 18, 3) := by decide +kernel
theorem dX0_afterProtection_16 : decode cX0_afterProtection 16 = .ok (.aload_n 0, 1) := by decide +kernel
theorem dX0_afterProtection_17 : decode cX0_afterProtection 17 = .ok (.dup, 1) := by decide +kernel
theorem dX0_afterProtection_18 : decode cX0_afterProtection 18 = .ok (.getfield 86, 3) := by decide +kernel
theorem dX0_afterProtection_21 : decode cX0_afterProtection 21 = .ok (.iconst 1, 1) := by decide +kernel
theorem dX0_afterProtection_22 : decode cX0_afterProtection 22 = .ok (.iadd, 1) := by decide +kernel
theorem dX0_afterProtection_23 : decode cX0_afterProtection 23 = .ok (.putfield 86, 3) := by decide +kernel
theorem dX0_afterProtection_26 : decode cX0_afterProtection 26 = .ok (.iload_n 2, 1) := by decide +kernel
theorem dX0_afterProtection_27 : decode cX0_afterProtection 27 = .ok (.bipush (-12), 2) := by decide +kernel
theorem dX0_afterProtection_29 : decode cX0_afterProtection 29 = .ok (.iand, 1) := by decide +kernel
theorem dX0_afterProtection_30 : decode cX0_afterProtection 30 = .ok (.istore_n 2, 1) := by decide +kernel
theorem dX0_afterProtection_31 : decode cX0_afterProtection 31 = .ok (.aload_n 0, 1) := by decide +kernel
theorem dX0_afterProtection_32 : decode cX0_afterProtection 32 = .ok (.getfield 33, 3) := by decide +kernel
theorem dX0_afterProtection_35 : decode cX0_afterProtection 35 = .ok (.iconst 3, 1) := by decide +kernel
theorem dX0_afterProtection_36 : decode cX0_afterProtection 36 = .ok (.if_icmp .ne 19, 3) := by decide +kernel
theorem dX0_afterProtection_39 : decode cX0_afterProtection 39 = .ok (.aload_n 0, 1) := by decide +kernel
theorem dX0_afterProtection_40 : decode cX0_afterProtection 40 = .ok (.getfield 24, 3) := by decide +kernel
theorem dX0_afterProtection_43 : decode cX0_afterProtection 43 = .ok (.iconst 2, 1) := by decide +kernel
theorem dX0_afterProtection_44 : decode cX0_afterProtection 44 = .ok (.iaload, 1) := by decide +kernel
theorem dX0_afterProtection_45 : decode cX0_afterProtection 45 = .ok (.sipush 410, 3) := by decide +kernel
theorem dX0_afterProtection_48 : decode cX0_afterProtection 48 = .ok (.if_icmp .le 7, 3) := by decide +kernel
theorem dX0_afterProtection_51 : decode cX0_afterProtection 51 = .ok (.iload_n 2, 1) := by decide +kernel
theorem dX0_afterProtection_52 : decode cX0_afterProtection 52 = .ok (.iconst 4, 1) := by decide +kernel
theorem dX0_afterProtection_53 : decode cX0_afterProtection 53 = .ok (.ior, 1) := by decide +kernel
theorem dX0_afterProtection_54 : decode cX0_afterProtection 54 = .ok (.istore_n 2, 1) := by decide +kernel
theorem dX0_afterProtection_55 : decode cX0_afterProtection 55 = .ok (.aload_n 0, 1) := by decide +kernel
theorem dX0_afterProtection_56 : decode cX0_afterProtection 56 = .ok (.getfield 33, 3) := by decide +kernel
theorem dX0_afterProtection_59 : decode cX0_afterProtection 59 = .ok (.iconst 3, 1) := by decide +kernel
theorem dX0_afterProtection_60 : decode cX0_afterProtection 60 = .ok (.if_icmp .ne 10, 3) := by decide +kernel
theorem dX0_afterProtection_63 : decode cX0_afterProtection 63 = .ok (.aload_n 0, 1) := by decide +kernel
theorem dX0_afterProtection_64 : decode cX0_afterProtection 64 = .ok (.invokevirtual 158, 3) := by decide +kernel
theorem dX0_afterProtection_67 : decode cX0_afterProtection 67 = .ok (.ifCond .eq 8, 3) := by decide +kernel
theorem dX0_afterProtection_70 : decode cX0_afterProtection 70 = .ok (.iload_n 2, 1) := by decide +kernel
theorem dX0_afterProtection_71 : decode cX0_afterProtection 71 = .ok (.bipush (-9), 2) := by decide +kernel
theorem dX0_afterProtection_73 : decode cX0_afterProtection 73 = .ok (.iand, 1) := by decide +kernel
theorem dX0_afterProtection_74 : decode cX0_afterProtection 74 = .ok (.istore_n 2, 1) := by decide +kernel
theorem dX0_afterProtection_75 : decode cX0_afterProtection 75 = .ok (.iload_n 2, 1) := by decide +kernel
theorem dX0_afterProtection_76 : decode cX0_afterProtection 76 = .ok (.ireturn, 1) := by decide +kernel
set_option maxRecDepth 20000 in
theorem ggX0_isRawDangerous_X0_isOutside : GoodIn wsX0_isRawDangerous wsX0_isOutside := goodIn_r _ [5] (by decide +kernel) (by decide +kernel)
set_option maxRecDepth 20000 in
theorem gX0_isRawDangerous_X0_isOutside : GoodIn wsX0_isRawDangerous (va_wsS RX0 50 yX0_isOutside wsX0_isOutside) := goodIn_app (goodIn_of _ (by decide +kernel)) ggX0_isRawDangerous_X0_isOutside
theorem dX0_isRawDangerous_0 : decode cX0_isRawDangerous 0 = .ok (.aload_n 0, 1) := by decide +kernel
theorem dX0_isRawDangerous_1 : decode cX0_isRawDangerous 1 = .ok (.getfield 24, 3) := by decide +kernel
theorem dX0_isRawDangerous_4 : decode cX0_isRawDangerous 4 = .ok (.iconst 4, 1) := by decide +kernel
theorem dX0_isRawDangerous_5 : decode cX0_isRawDangerous 5 = .ok (.iaload, 1) := by decide +kernel
theorem dX0_isRawDangerous_6 : decode cX0_isRawDangerous 6 = .ok (.ifCond .ne 38, 3) := by decide +kernel
theorem dX0_isRawDangerous_9 : decode cX0_isRawDangerous 9 = .ok (.aload_n 0, 1) := by decide +kernel
theorem dX0_isRawDangerous_10 : decode cX0_isRawDangerous 10 = .ok (.getfield 24, 3) := by decide +kernel
theorem dX0_isRawDangerous_13 : decode cX0_isRawDangerous 13 = .ok (.iconst 0, 1) := by decide +kernel
theorem dX0_isRawDangerous_14 : decode cX0_isRawDangerous 14 = .ok (.iaload, 1) := by decide +kernel
theorem dX0_isRawDangerous_15 : decode cX0_isRawDangerous 15 = .ok (.sipush (-350), 3) := by decide +kernel
theorem dX0_isRawDangerous_18 : decode cX0_isRawDangerous 18 = .ok (.sipush 250, 3) := by decide +kernel
theorem dX0_isRawDangerous_21 : decode cX0_isRawDangerous 21 = .ok (.invokestatic 50, 3) := by decide +kernel
theorem dX0_isRawDangerous_24 : decode cX0_isRawDangerous 24 = .ok (.ifCond .ne 20, 3) := by decide +kernel
theorem dX0_isRawDangerous_27 : decode cX0_isRawDangerous 27 = .ok (.aload_n 0, 1) := by decide +kernel
theorem dX0_isRawDangerous_28 : decode cX0_isRawDangerous 28 = .ok (.getfield 24, 3) := by decide +kernel
theorem dX0_isRawDangerous_31 : decode cX0_isRawDangerous 31 = .ok (.iconst 1, 1) := by decide +kernel
theorem dX0_isRawDangerous_32 : decode cX0_isRawDangerous 32 = .ok (.iaload, 1) := by decide +kernel
theorem dX0_isRawDangerous_33 : decode cX0_isRawDangerous 33 = .ok (.bipush (-50), 2) := by decide +kernel
theorem dX0_isRawDangerous_35 : decode cX0_isRawDangerous 35 = .ok (.sipush 450, 3) := by decide +kernel
theorem dX0_isRawDangerous_38 : decode cX0_isRawDangerous 38 = .ok (.invokestatic 50, 3) := by decide +kernel
theorem dX0_isRawDangerous_41 : decode cX0_isRawDangerous 41 = .ok (.ifCond .eq 7, 3) := by decide +kernel
theorem dX0_isRawDangerous_44 : decode cX0_isRawDangerous 44 = .ok (.iconst 1, 1) := by decide +kernel
theorem dX0_isRawDangerous_45 : decode cX0_isRawDangerous 45 = .ok (.goto 4, 3) := by decide +kernel
theorem dX0_isRawDangerous_48 : decode cX0_isRawDangerous 48 = .ok (.iconst 0, 1) := by decide +kernel
theorem dX0_isRawDangerous_49 : decode cX0_isRawDangerous 49 = .ok (.ireturn, 1) := by decide +kernel
theorem dX0_isStrokeTooMuch_0 : decode cX0_isStrokeTooMuch 0 = .ok (.aload_n 0, 1) := by decide +kernel
theorem dX0_isStrokeTooMuch_1 : decode cX0_isStrokeTooMuch 1 = .ok (.getfield 83, 3) := by decide +kernel
theorem dX0_isStrokeTooMuch_4 : decode cX0_isStrokeTooMuch 4 = .ok (.iconst 1, 1) := by decide +kernel
theorem dX0_isStrokeTooMuch_5 : decode cX0_isStrokeTooMuch 5 = .ok (.iadd, 1) := by decide +kernel
theorem dX0_isStrokeTooMuch_6 : decode cX0_isStrokeTooMuch 6 = .ok (.sipush 500, 3) := by decide +kernel
theorem dX0_isStrokeTooMuch_9 : decode cX0_isStrokeTooMuch 9 = .ok (.imul, 1) := by decide +kernel
theorem dX0_isStrokeTooMuch_10 : decode cX0_isStrokeTooMuch 10 = .ok (.aload_n 0, 1) := by decide +kernel
theorem dX0_isStrokeTooMuch_11 : decode cX0_isStrokeTooMuch 11 = .ok (.getfield 18, 3) := by decide +kernel
theorem dX0_isStrokeTooMuch_14 : decode cX0_isStrokeTooMuch 14 = .ok (.iconst 1, 1) := by decide +kernel
theorem dX0_isStrokeTooMuch_15 : decode cX0_isStrokeTooMuch 15 = .ok (.iaload, 1) := by decide +kernel
theorem dX0_isStrokeTooMuch_16 : decode cX0_isStrokeTooMuch 16 = .ok (.sipush 1000, 3) := by decide +kernel
theorem dX0_isStrokeTooMuch_19 : decode cX0_isStrokeTooMuch 19 = .ok (.imul, 1) := by decide +kernel
theorem dX0_isStrokeTooMuch_20 : decode cX0_isStrokeTooMuch 20 = .ok (.sipush 500, 3) := by decide +kernel
theorem dX0_isStrokeTooMuch_23 : decode cX0_isStrokeTooMuch 23 = .ok (.iadd, 1) := by decide +kernel
theorem dX0_isStrokeTooMuch_24 : decode cX0_isStrokeTooMuch 24 = .ok (.if_icmp .le 7, 3) := by decide +kernel
theorem dX0_isStrokeTooMuch_27 : decode cX0_isStrokeTooMuch 27 = .ok (.iconst 1, 1) := by decide +kernel
theorem dX0_isStrokeTooMuch_28 : decode cX0_isStrokeTooMuch 28 = .ok (.goto 4, 3) := by decide +kernel
theorem dX0_isStrokeTooMuch_31 : decode cX0_isStrokeTooMuch 31 = .ok (.iconst 0, 1) := by decide +kernel
theorem dX0_isStrokeTooMuch_32 : decode cX0_isStrokeTooMuch 32 = .ok (.ireturn, 1) := by decide +kernel
set_option maxRecDepth 20000 in
theorem ggX0_countTowardsEnd_X0_ticksOfTreatment : GoodIn wsX0_countTowardsEnd wsX0_ticksOfTreatment := goodIn_r _ [9, 10, 17, 18, 19, 20, 21, 22, 23, 24, 25, 26, 27, 28, 29, 30, 31, 32, 33, 34] (by decide +kernel) (by decide +kernel)
set_option maxRecDepth 20000 in
theorem gX0_countTowardsEnd_X0_ticksOfTreatment : GoodIn wsX0_countTowardsEnd (wsV RX0 152 RX0 yX0_ticksOfTreatment wsX0_ticksOfTreatment) := goodIn_app (goodIn_of _ (by decide +kernel)) ggX0_countTowardsEnd_X0_ticksOfTreatment
set_option maxRecDepth 20000 in
theorem ggX0_countTowardsEnd_X0_beginPhase : GoodIn wsX0_countTowardsEnd wsX0_beginPhase := goodIn_r _ [14, 1, 3, 4, 15, 16, 17, 18, 19, 20, 21, 22, 23, 24, 25, 26, 27, 28, 29, 30, 31, 32, 33, 34] (by decide +kernel) (by decide +kernel)
set_option maxRecDepth 20000 in
theorem gX0_countTowardsEnd_X0_beginPhase : GoodIn wsX0_countTowardsEnd (wsV RX0 61 RX0 yX0_beginPhase wsX0_beginPhase) := goodIn_app (goodIn_of _ (by decide +kernel)) ggX0_countTowardsEnd_X0_beginPhase
theorem dX0_countTowardsEnd_0 : decode cX0_countTowardsEnd 0 = .ok (.aload_n 0, 1) := by decide +kernel
theorem dX0_countTowardsEnd_1 : decode cX0_countTowardsEnd 1 = .ok (.getfield 33, 3) := by decide +kernel
theorem dX0_countTowardsEnd_4 : decode cX0_countTowardsEnd 4 = .ok (.iconst 1, 1) := by decide +kernel
theorem dX0_countTowardsEnd_5 : decode cX0_countTowardsEnd 5 = .ok (.if_icmp .eq 11, 3) := by decide +kernel
theorem dX0_countTowardsEnd_8 : decode cX0_countTowardsEnd 8 = .ok (.aload_n 0, 1) := by decide +kernel
theorem dX0_countTowardsEnd_9 : decode cX0_countTowardsEnd 9 = .ok (.getfield 33, 3) := by decide +kernel
theorem dX0_countTowardsEnd_12 : decode cX0_countTowardsEnd 12 = .ok (.iconst 4, 1) := by decide +kernel
theorem dX0_countTowardsEnd_13 : decode cX0_countTowardsEnd 13 = .ok (.if_icmp .ne 7, 3) := by decide +kernel
theorem dX0_countTowardsEnd_16 : decode cX0_countTowardsEnd 16 = .ok (.iconst 1, 1) := by decide +kernel
theorem dX0_countTowardsEnd_17 : decode cX0_countTowardsEnd 17 = .ok (.goto 4, 3) := by decide +kernel
theorem dX0_countTowardsEnd_20 : decode cX0_countTowardsEnd 20 = .ok (.iconst 0, 1) := by decide +kernel
theorem dX0_countTowardsEnd_21 : decode cX0_countTowardsEnd 21 = .ok (.istore_n 1, 1) := by decide +kernel
theorem dX0_countTowardsEnd_22 : decode cX0_countTowardsEnd 22 = .ok (.aload_n 0, 1) := by decide +kernel
theorem dX0_countTowardsEnd_23 : decode cX0_countTowardsEnd 23 = .ok (.getfield 33, 3) := by decide +kernel
theorem dX0_countTowardsEnd_26 : decode cX0_countTowardsEnd 26 = .ok (.iconst 5, 1) := by decide +kernel
theorem dX0_countTowardsEnd_27 : decode cX0_countTowardsEnd 27 = .ok (.if_icmp .eq 16, 3) := by decide +kernel
theorem dX0_countTowardsEnd_30 : decode cX0_countTowardsEnd 30 = .ok (.iload_n 1, 1) := by decide +kernel
theorem dX0_countTowardsEnd_31 : decode cX0_countTowardsEnd 31 = .ok (.ifCond .eq 22, 3) := by decide +kernel
theorem dX0_countTowardsEnd_34 : decode cX0_countTowardsEnd 34 = .ok (.aload_n 0, 1) := by decide +kernel
theorem dX0_countTowardsEnd_35 : decode cX0_countTowardsEnd 35 = .ok (.getfield 74, 3) := by decide +kernel
theorem dX0_countTowardsEnd_38 : decode cX0_countTowardsEnd 38 = .ok (.iconst 1, 1) := by decide +kernel
theorem dX0_countTowardsEnd_39 : decode cX0_countTowardsEnd 39 = .ok (.iand, 1) := by decide +kernel
theorem dX0_countTowardsEnd_40 : decode cX0_countTowardsEnd 40 = .ok (.ifCond .eq 13, 3) := by decide +kernel
theorem dX0_countTowardsEnd_43 : decode cX0_countTowardsEnd 43 = .ok (.aload_n 0, 1) := by decide +kernel
theorem dX0_countTowardsEnd_44 : decode cX0_countTowardsEnd 44 = .ok (.dup, 1) := by decide +kernel
theorem dX0_countTowardsEnd_45 : decode cX0_countTowardsEnd 45 = .ok (.getfield 89, 3) := by decide +kernel
theorem dX0_countTowardsEnd_48 : decode cX0_countTowardsEnd 48 = .ok (.iconst 1, 1) := by decide +kernel
theorem dX0_countTowardsEnd_49 : decode cX0_countTowardsEnd 49 = .ok (.iadd, 1) := by decide +kernel
theorem dX0_countTowardsEnd_50 : decode cX0_countTowardsEnd 50 = .ok (.putfield 89, 3) := by decide +kernel
theorem dX0_countTowardsEnd_53 : decode cX0_countTowardsEnd 53 = .ok (.aload_n 0, 1) := by decide +kernel
theorem dX0_countTowardsEnd_54 : decode cX0_countTowardsEnd 54 = .ok (.getfield 33, 3) := by decide +kernel
theorem dX0_countTowardsEnd_57 : decode cX0_countTowardsEnd 57 = .ok (.iconst 3, 1) := by decide +kernel
theorem dX0_countTowardsEnd_58 : decode cX0_countTowardsEnd 58 = .ok (.if_icmp .ne 19, 3) := by decide +kernel
theorem dX0_countTowardsEnd_61 : decode cX0_countTowardsEnd 61 = .ok (.aload_n 0, 1) := by decide +kernel
theorem dX0_countTowardsEnd_62 : decode cX0_countTowardsEnd 62 = .ok (.getfield 77, 3) := by decide +kernel
theorem dX0_countTowardsEnd_65 : decode cX0_countTowardsEnd 65 = .ok (.aload_n 0, 1) := by decide +kernel
theorem dX0_countTowardsEnd_66 : decode cX0_countTowardsEnd 66 = .ok (.invokevirtual 152, 3) := by decide +kernel
theorem dX0_countTowardsEnd_69 : decode cX0_countTowardsEnd 69 = .ok (.if_icmp .lt 8, 3) := by decide +kernel
theorem dX0_countTowardsEnd_72 : decode cX0_countTowardsEnd 72 = .ok (.aload_n 0, 1) := by decide +kernel
theorem dX0_countTowardsEnd_73 : decode cX0_countTowardsEnd 73 = .ok (.iconst 4, 1) := by decide +kernel
theorem dX0_countTowardsEnd_74 : decode cX0_countTowardsEnd 74 = .ok (.invokevirtual 61, 3) := by decide +kernel
theorem dX0_countTowardsEnd_77 : decode cX0_countTowardsEnd 77 = .ok (.return_, 1) := by decide +kernel
theorem dJ9_abs_0f7a4_0 : decode cJ9_abs_0f7a4 0 = .ok (.iload_n 0, 1) := by decide +kernel
theorem dJ9_abs_0f7a4_1 : decode cJ9_abs_0f7a4 1 = .ok (.ifCond .ge 8, 3) := by decide +kernel
theorem dJ9_abs_0f7a4_4 : decode cJ9_abs_0f7a4 4 = .ok (.iload_n 0, 1) := by decide +kernel
theorem dJ9_abs_0f7a4_5 : decode cJ9_abs_0f7a4 5 = .ok (.ineg, 1) := by decide +kernel
theorem dJ9_abs_0f7a4_6 : decode cJ9_abs_0f7a4 6 = .ok (.goto 4, 3) := by decide +kernel
theorem dJ9_abs_0f7a4_9 : decode cJ9_abs_0f7a4 9 = .ok (.iload_n 0, 1) := by decide +kernel
theorem dJ9_abs_0f7a4_10 : decode cJ9_abs_0f7a4 10 = .ok (.ireturn, 1) := by decide +kernel
set_option maxRecDepth 20000 in
theorem ggL_law_X0_init : GoodIn wsL_law wsX0_init := goodIn_r _ [5, 6, 7, 8, 9, 10, 11, 12, 13, 14, 15, 16, 17, 18, 19, 20, 21, 22, 23, 194, 195, 196, 197, 198, 199, 200, 201, 202, 203, 204, 205, 206, 207, 208, 209, 210, 211] (by decide +kernel) (by decide +kernel)
set_option maxRecDepth 20000 in
theorem gL_law_X0_init : GoodIn wsL_law (wsX0_init) := ggL_law_X0_init
set_option maxRecDepth 20000 in
theorem ggL_law_X0_set : GoodIn wsL_law wsX0_set := goodIn_r _ [27, 22, 28, 29, 16, 30, 31, 2, 32, 33, 34, 35, 194, 195, 196, 197, 198, 199, 200, 201, 202, 203, 204, 205, 206, 207, 208, 209, 210, 211] (by decide +kernel) (by decide +kernel)
set_option maxRecDepth 20000 in
theorem gL_law_X0_set : GoodIn wsL_law (wsV RL 13 RX0 yX0_set wsX0_set) := goodIn_app (goodIn_of _ (by decide +kernel)) ggL_law_X0_set
set_option maxRecDepth 20000 in
theorem ggL_law_X0_parameter : GoodIn wsL_law wsX0_parameter := goodIn_r _ [39, 16, 30, 31, 2, 32, 194, 195, 196, 197, 198, 199, 200, 201, 202, 203, 204, 205, 206, 207, 208, 209, 210, 211] (by decide +kernel) (by decide +kernel)
set_option maxRecDepth 20000 in
theorem gL_law_X0_parameter : GoodIn wsL_law (wsV RL 18 RX0 yX0_parameter wsX0_parameter) := goodIn_app (goodIn_of _ (by decide +kernel)) ggL_law_X0_parameter
set_option maxRecDepth 20000 in
theorem ggL_law_X0_sense : GoodIn wsL_law wsX0_sense := goodIn_r _ [43, 18, 44, 45, 2, 46, 194, 195, 196, 197, 198, 199, 200, 201, 202, 203, 204, 205, 206, 207, 208, 209, 210, 211] (by decide +kernel) (by decide +kernel)
set_option maxRecDepth 20000 in
theorem gL_law_X0_sense : GoodIn wsL_law (wsV RL 23 RX0 yX0_sense wsX0_sense) := goodIn_app (goodIn_of _ (by decide +kernel)) ggL_law_X0_sense
set_option maxRecDepth 20000 in
theorem ggL_law_X0_conditioned : GoodIn wsL_law wsX0_conditioned := goodIn_r _ [50, 19, 44, 45, 2, 46, 194, 195, 196, 197, 198, 199, 200, 201, 202, 203, 204, 205, 206, 207, 208, 209, 210, 211] (by decide +kernel) (by decide +kernel)
set_option maxRecDepth 20000 in
theorem gL_law_X0_conditioned : GoodIn wsL_law (wsV RL 27 RX0 yX0_conditioned wsX0_conditioned) := goodIn_app (goodIn_of _ (by decide +kernel)) ggL_law_X0_conditioned
set_option maxRecDepth 20000 in
theorem ggL_law_X0_faulty : GoodIn wsL_law wsX0_faulty := goodIn_r _ [54, 21, 44, 45, 2, 46, 194, 195, 196, 197, 198, 199, 200, 201, 202, 203, 204, 205, 206, 207, 208, 209, 210, 211] (by decide +kernel) (by decide +kernel)
set_option maxRecDepth 20000 in
theorem gL_law_X0_faulty : GoodIn wsL_law (wsV RL 31 RX0 yX0_faulty wsX0_faulty) := goodIn_app (goodIn_of _ (by decide +kernel)) ggL_law_X0_faulty
set_option maxRecDepth 20000 in
theorem ggL_law_X0_next : GoodIn wsL_law wsX0_next := goodIn_r _ [58, 22, 59, 60, 61, 2, 62, 63, 64, 65, 66, 67, 68, 69, 16, 70, 71, 72, 73, 74, 75, 76, 194, 195, 196, 197, 198, 199, 200, 201, 202, 203, 204, 205, 206, 207, 208, 209, 210, 211] (by decide +kernel) (by decide +kernel)
set_option maxRecDepth 20000 in
theorem gL_law_X0_next : GoodIn wsL_law (wsV RL 36 RX0 yX0_next wsX0_next) := goodIn_app (goodIn_of _ (by decide +kernel)) ggL_law_X0_next
set_option maxRecDepth 20000 in
theorem ggL_law_X0_acknowledge : GoodIn wsL_law wsX0_acknowledge := goodIn_r _ [80, 64, 81, 194, 195, 196, 197, 198, 199, 200, 201, 202, 203, 204, 205, 206, 207, 208, 209, 210, 211] (by decide +kernel) (by decide +kernel)
set_option maxRecDepth 20000 in
theorem gL_law_X0_acknowledge : GoodIn wsL_law (wsV RL 41 RX0 yX0_acknowledge wsX0_acknowledge) := goodIn_app (goodIn_of _ (by decide +kernel)) ggL_law_X0_acknowledge
set_option maxRecDepth 20000 in
theorem ggL_law_X0_substitute : GoodIn wsL_law wsX0_substitute := goodIn_r _ [85, 23, 33, 34, 2, 35, 194, 195, 196, 197, 198, 199, 200, 201, 202, 203, 204, 205, 206, 207, 208, 209, 210, 211] (by decide +kernel) (by decide +kernel)
set_option maxRecDepth 20000 in
theorem gL_law_X0_substitute : GoodIn wsL_law (wsV RL 45 RX0 yX0_substitute wsX0_substitute) := goodIn_app (goodIn_of _ (by decide +kernel)) ggL_law_X0_substitute
set_option maxRecDepth 20000 in
theorem ggL_law_X0_tick : GoodIn wsL_law wsX0_tick := goodIn_r _ [89, 33, 34, 2, 35, 90, 91, 92, 93, 64, 22, 81, 23, 94, 76, 95, 96, 97, 98, 18, 99, 100, 21, 19, 101, 102, 103, 104, 16, 105, 106, 107, 63, 108, 109, 110, 111, 112, 113, 114, 115, 116, 117, 118, 119, 120, 121, 122, 123, 124, 125, 126, 127, 128, 129, 130, 131, 74, 75, 132, 133, 134, 135, 136, 137, 138, 139, 140, 141, 142, 143, 144, 145, 146, 147, 148, 149, 150, 151, 152, 153, 154, 155, 156, 157, 65, 70, 71, 72, 73, 194, 195, 196, 197, 198, 199, 200, 201, 202, 203, 204, 205, 206, 207, 208, 209, 210, 211] (by decide +kernel) (by decide +kernel)
set_option maxRecDepth 20000 in
theorem gL_law_X0_tick : GoodIn wsL_law (wsV RL 49 RX0 yX0_tick wsX0_tick) := goodIn_app (goodIn_of _ (by decide +kernel)) ggL_law_X0_tick
set_option maxRecDepth 20000 in
theorem ggL_law_X0_phase : GoodIn wsL_law wsX0_phase := goodIn_r _ [161, 22, 194, 195, 196, 197, 198, 199, 200, 201, 202, 203, 204, 205, 206, 207, 208, 209, 210, 211] (by decide +kernel) (by decide +kernel)
set_option maxRecDepth 20000 in
theorem gL_law_X0_phase : GoodIn wsL_law (wsV RL 53 RX0 yX0_phase wsX0_phase) := goodIn_app (goodIn_of _ (by decide +kernel)) ggL_law_X0_phase
set_option maxRecDepth 20000 in
theorem ggL_law_X0_alarms : GoodIn wsL_law wsX0_alarms := goodIn_r _ [165, 64, 194, 195, 196, 197, 198, 199, 200, 201, 202, 203, 204, 205, 206, 207, 208, 209, 210, 211] (by decide +kernel) (by decide +kernel)
set_option maxRecDepth 20000 in
theorem gL_law_X0_alarms : GoodIn wsL_law (wsV RL 57 RX0 yX0_alarms wsX0_alarms) := goodIn_app (goodIn_of _ (by decide +kernel)) ggL_law_X0_alarms
set_option maxRecDepth 20000 in
theorem ggL_law_X0_conditions : GoodIn wsL_law wsX0_conditions := goodIn_r _ [169, 81, 194, 195, 196, 197, 198, 199, 200, 201, 202, 203, 204, 205, 206, 207, 208, 209, 210, 211] (by decide +kernel) (by decide +kernel)
set_option maxRecDepth 20000 in
theorem gL_law_X0_conditions : GoodIn wsL_law (wsV RL 61 RX0 yX0_conditions wsX0_conditions) := goodIn_app (goodIn_of _ (by decide +kernel)) ggL_law_X0_conditions
set_option maxRecDepth 20000 in
theorem ggL_law_X0_outputs : GoodIn wsL_law wsX0_outputs := goodIn_r _ [173, 94, 194, 195, 196, 197, 198, 199, 200, 201, 202, 203, 204, 205, 206, 207, 208, 209, 210, 211] (by decide +kernel) (by decide +kernel)
set_option maxRecDepth 20000 in
theorem gL_law_X0_outputs : GoodIn wsL_law (wsV RL 65 RX0 yX0_outputs wsX0_outputs) := goodIn_app (goodIn_of _ (by decide +kernel)) ggL_law_X0_outputs
set_option maxRecDepth 20000 in
theorem ggL_law_X0_effective : GoodIn wsL_law wsX0_effective := goodIn_r _ [177, 74, 194, 195, 196, 197, 198, 199, 200, 201, 202, 203, 204, 205, 206, 207, 208, 209, 210, 211] (by decide +kernel) (by decide +kernel)
set_option maxRecDepth 20000 in
theorem gL_law_X0_effective : GoodIn wsL_law (wsV RL 69 RX0 yX0_effective wsX0_effective) := goodIn_app (goodIn_of _ (by decide +kernel)) ggL_law_X0_effective
set_option maxRecDepth 20000 in
theorem ggL_law_X0_accounted : GoodIn wsL_law wsX0_accounted := goodIn_r _ [181, 75, 194, 195, 196, 197, 198, 199, 200, 201, 202, 203, 204, 205, 206, 207, 208, 209, 210, 211] (by decide +kernel) (by decide +kernel)
set_option maxRecDepth 20000 in
theorem gL_law_X0_accounted : GoodIn wsL_law (wsV RL 73 RX0 yX0_accounted wsX0_accounted) := goodIn_app (goodIn_of _ (by decide +kernel)) ggL_law_X0_accounted
set_option maxRecDepth 20000 in
theorem ggL_law_X0_strokes : GoodIn wsL_law wsX0_strokes := goodIn_r _ [185, 76, 194, 195, 196, 197, 198, 199, 200, 201, 202, 203, 204, 205, 206, 207, 208, 209, 210, 211] (by decide +kernel) (by decide +kernel)
set_option maxRecDepth 20000 in
theorem gL_law_X0_strokes : GoodIn wsL_law (wsV RL 77 RX0 yX0_strokes wsX0_strokes) := goodIn_app (goodIn_of _ (by decide +kernel)) ggL_law_X0_strokes
set_option maxRecDepth 20000 in
theorem ggL_law_X0_trips : GoodIn wsL_law wsX0_trips := goodIn_r _ [189, 145, 194, 195, 196, 197, 198, 199, 200, 201, 202, 203, 204, 205, 206, 207, 208, 209, 210, 211] (by decide +kernel) (by decide +kernel)
set_option maxRecDepth 20000 in
theorem gL_law_X0_trips : GoodIn wsL_law (wsV RL 81 RX0 yX0_trips wsX0_trips) := goodIn_app (goodIn_of _ (by decide +kernel)) ggL_law_X0_trips
set_option maxRecDepth 20000 in
theorem ggL_law_X0_counted : GoodIn wsL_law wsX0_counted := goodIn_r _ [193, 65, 194, 195, 196, 197, 198, 199, 200, 201, 202, 203, 204, 205, 206, 207, 208, 209, 210, 211] (by decide +kernel) (by decide +kernel)
set_option maxRecDepth 20000 in
theorem gL_law_X0_counted : GoodIn wsL_law (wsV RL 85 RX0 yX0_counted wsX0_counted) := goodIn_app (goodIn_of _ (by decide +kernel)) ggL_law_X0_counted
theorem dL_law_0 : decode cL_law 0 = .ok (.new 7, 3) := by decide +kernel
theorem dL_law_3 : decode cL_law 3 = .ok (.dup, 1) := by decide +kernel
theorem dL_law_4 : decode cL_law 4 = .ok (.invokespecial 9, 3) := by decide +kernel
theorem dL_law_7 : decode cL_law 7 = .ok (.astore_n 1, 1) := by decide +kernel
theorem dL_law_8 : decode cL_law 8 = .ok (.new 10, 3) := by decide +kernel
theorem dL_law_11 : decode cL_law 11 = .ok (.dup, 1) := by decide +kernel
theorem dL_law_12 : decode cL_law 12 = .ok (.invokespecial 12, 3) := by decide +kernel
theorem dL_law_15 : decode cL_law 15 = .ok (.astore_n 2, 1) := by decide +kernel
theorem dL_law_16 : decode cL_law 16 = .ok (.iconst 0, 1) := by decide +kernel
theorem dL_law_17 : decode cL_law 17 = .ok (.istore_n 3, 1) := by decide +kernel
theorem dL_law_18 : decode cL_law 18 = .ok (.iload_n 3, 1) := by decide +kernel
theorem dL_law_19 : decode cL_law 19 = .ok (.aload_n 0, 1) := by decide +kernel
theorem dL_law_20 : decode cL_law 20 = .ok (.arraylength, 1) := by decide +kernel
theorem dL_law_21 : decode cL_law 21 = .ok (.iconst 3, 1) := by decide +kernel
theorem dL_law_22 : decode cL_law 22 = .ok (.isub, 1) := by decide +kernel
theorem dL_law_23 : decode cL_law 23 = .ok (.if_icmp .gt 444, 3) := by decide +kernel
theorem dL_law_26 : decode cL_law 26 = .ok (.aload_n 0, 1) := by decide +kernel
theorem dL_law_27 : decode cL_law 27 = .ok (.iload_n 3, 1) := by decide +kernel
theorem dL_law_28 : decode cL_law 28 = .ok (.iaload, 1) := by decide +kernel
theorem dL_law_29 : decode cL_law 29 = .ok (.bipush 31, 2) := by decide +kernel
theorem dL_law_31 : decode cL_law 31 = .ok (.iand, 1) := by decide +kernel
theorem dL_law_32 : decode cL_law 32 = .ok (.tableswitch 429 0 18 #[92, 125, 148, 181, 204, 227, 240, 253, 276, 299, 312, 325, 338, 351, 364, 377, 390, 403, 416], 92) := by decide +kernel
theorem dL_law_124 : decode cL_law 124 = .ok (.aload_n 1, 1) := by decide +kernel
theorem dL_law_125 : decode cL_law 125 = .ok (.aload_n 0, 1) := by decide +kernel
theorem dL_law_126 : decode cL_law 126 = .ok (.iload_n 3, 1) := by decide +kernel
theorem dL_law_127 : decode cL_law 127 = .ok (.iconst 1, 1) := by decide +kernel
theorem dL_law_128 : decode cL_law 128 = .ok (.iadd, 1) := by decide +kernel
theorem dL_law_129 : decode cL_law 129 = .ok (.iaload, 1) := by decide +kernel
theorem dL_law_130 : decode cL_law 130 = .ok (.aload_n 0, 1) := by decide +kernel
theorem dL_law_131 : decode cL_law 131 = .ok (.iload_n 3, 1) := by decide +kernel
theorem dL_law_132 : decode cL_law 132 = .ok (.iconst 2, 1) := by decide +kernel
theorem dL_law_133 : decode cL_law 133 = .ok (.iadd, 1) := by decide +kernel
theorem dL_law_134 : decode cL_law 134 = .ok (.iaload, 1) := by decide +kernel
theorem dL_law_135 : decode cL_law 135 = .ok (.invokevirtual 13, 3) := by decide +kernel
theorem dL_law_138 : decode cL_law 138 = .ok (.aload_n 2, 1) := by decide +kernel
theorem dL_law_139 : decode cL_law 139 = .ok (.aload_n 0, 1) := by decide +kernel
theorem dL_law_140 : decode cL_law 140 = .ok (.iload_n 3, 1) := by decide +kernel
theorem dL_law_141 : decode cL_law 141 = .ok (.iconst 1, 1) := by decide +kernel
theorem dL_law_142 : decode cL_law 142 = .ok (.iadd, 1) := by decide +kernel
theorem dL_law_143 : decode cL_law 143 = .ok (.iaload, 1) := by decide +kernel
theorem dL_law_144 : decode cL_law 144 = .ok (.aload_n 0, 1) := by decide +kernel
theorem dL_law_145 : decode cL_law 145 = .ok (.iload_n 3, 1) := by decide +kernel
theorem dL_law_146 : decode cL_law 146 = .ok (.iconst 2, 1) := by decide +kernel
theorem dL_law_147 : decode cL_law 147 = .ok (.iadd, 1) := by decide +kernel
theorem dL_law_148 : decode cL_law 148 = .ok (.iaload, 1) := by decide +kernel
theorem dL_law_149 : decode cL_law 149 = .ok (.invokevirtual 17, 3) := by decide +kernel
theorem dL_law_152 : decode cL_law 152 = .ok (.if_icmp .eq 309, 3) := by decide +kernel
theorem dL_law_155 : decode cL_law 155 = .ok (.iconst 0, 1) := by decide +kernel
theorem dL_law_156 : decode cL_law 156 = .ok (.ireturn, 1) := by decide +kernel
theorem dL_law_157 : decode cL_law 157 = .ok (.aload_n 1, 1) := by decide +kernel
theorem dL_law_158 : decode cL_law 158 = .ok (.aload_n 0, 1) := by decide +kernel
theorem dL_law_159 : decode cL_law 159 = .ok (.iload_n 3, 1) := by decide +kernel
theorem dL_law_160 : decode cL_law 160 = .ok (.iconst 1, 1) := by decide +kernel
theorem dL_law_161 : decode cL_law 161 = .ok (.iadd, 1) := by decide +kernel
theorem dL_law_162 : decode cL_law 162 = .ok (.iaload, 1) := by decide +kernel
theorem dL_law_163 : decode cL_law 163 = .ok (.invokevirtual 18, 3) := by decide +kernel
theorem dL_law_166 : decode cL_law 166 = .ok (.aload_n 2, 1) := by decide +kernel
theorem dL_law_167 : decode cL_law 167 = .ok (.aload_n 0, 1) := by decide +kernel
theorem dL_law_168 : decode cL_law 168 = .ok (.iload_n 3, 1) := by decide +kernel
theorem dL_law_169 : decode cL_law 169 = .ok (.iconst 1, 1) := by decide +kernel
theorem dL_law_170 : decode cL_law 170 = .ok (.iadd, 1) := by decide +kernel
theorem dL_law_171 : decode cL_law 171 = .ok (.iaload, 1) := by decide +kernel
theorem dL_law_172 : decode cL_law 172 = .ok (.invokevirtual 22, 3) := by decide +kernel
theorem dL_law_175 : decode cL_law 175 = .ok (.if_icmp .eq 286, 3) := by decide +kernel
theorem dL_law_178 : decode cL_law 178 = .ok (.iconst 0, 1) := by decide +kernel
theorem dL_law_179 : decode cL_law 179 = .ok (.ireturn, 1) := by decide +kernel
theorem dL_law_180 : decode cL_law 180 = .ok (.aload_n 1, 1) := by decide +kernel
theorem dL_law_181 : decode cL_law 181 = .ok (.aload_n 0, 1) := by decide +kernel
theorem dL_law_182 : decode cL_law 182 = .ok (.iload_n 3, 1) := by decide +kernel
theorem dL_law_183 : decode cL_law 183 = .ok (.iconst 1, 1) := by decide +kernel
theorem dL_law_184 : decode cL_law 184 = .ok (.iadd, 1) := by decide +kernel
theorem dL_law_185 : decode cL_law 185 = .ok (.iaload, 1) := by decide +kernel
theorem dL_law_186 : decode cL_law 186 = .ok (.aload_n 0, 1) := by decide +kernel
theorem dL_law_187 : decode cL_law 187 = .ok (.iload_n 3, 1) := by decide +kernel
theorem dL_law_188 : decode cL_law 188 = .ok (.iconst 2, 1) := by decide +kernel
theorem dL_law_189 : decode cL_law 189 = .ok (.iadd, 1) := by decide +kernel
theorem dL_law_190 : decode cL_law 190 = .ok (.iaload, 1) := by decide +kernel
theorem dL_law_191 : decode cL_law 191 = .ok (.invokevirtual 23, 3) := by decide +kernel
theorem dL_law_194 : decode cL_law 194 = .ok (.aload_n 2, 1) := by decide +kernel
theorem dL_law_195 : decode cL_law 195 = .ok (.aload_n 0, 1) := by decide +kernel
theorem dL_law_196 : decode cL_law 196 = .ok (.iload_n 3, 1) := by decide +kernel
theorem dL_law_197 : decode cL_law 197 = .ok (.iconst 1, 1) := by decide +kernel
theorem dL_law_198 : decode cL_law 198 = .ok (.iadd, 1) := by decide +kernel
theorem dL_law_199 : decode cL_law 199 = .ok (.iaload, 1) := by decide +kernel
theorem dL_law_200 : decode cL_law 200 = .ok (.aload_n 0, 1) := by decide +kernel
theorem dL_law_201 : decode cL_law 201 = .ok (.iload_n 3, 1) := by decide +kernel
theorem dL_law_202 : decode cL_law 202 = .ok (.iconst 2, 1) := by decide +kernel
theorem dL_law_203 : decode cL_law 203 = .ok (.iadd, 1) := by decide +kernel
theorem dL_law_204 : decode cL_law 204 = .ok (.iaload, 1) := by decide +kernel
theorem dL_law_205 : decode cL_law 205 = .ok (.invokevirtual 26, 3) := by decide +kernel
theorem dL_law_208 : decode cL_law 208 = .ok (.if_icmp .eq 253, 3) := by decide +kernel
theorem dL_law_211 : decode cL_law 211 = .ok (.iconst 0, 1) := by decide +kernel
theorem dL_law_212 : decode cL_law 212 = .ok (.ireturn, 1) := by decide +kernel
theorem dL_law_213 : decode cL_law 213 = .ok (.aload_n 1, 1) := by decide +kernel
theorem dL_law_214 : decode cL_law 214 = .ok (.aload_n 0, 1) := by decide +kernel
theorem dL_law_215 : decode cL_law 215 = .ok (.iload_n 3, 1) := by decide +kernel
theorem dL_law_216 : decode cL_law 216 = .ok (.iconst 1, 1) := by decide +kernel
theorem dL_law_217 : decode cL_law 217 = .ok (.iadd, 1) := by decide +kernel
theorem dL_law_218 : decode cL_law 218 = .ok (.iaload, 1) := by decide +kernel
theorem dL_law_219 : decode cL_law 219 = .ok (.invokevirtual 27, 3) := by decide +kernel
theorem dL_law_222 : decode cL_law 222 = .ok (.aload_n 2, 1) := by decide +kernel
theorem dL_law_223 : decode cL_law 223 = .ok (.aload_n 0, 1) := by decide +kernel
theorem dL_law_224 : decode cL_law 224 = .ok (.iload_n 3, 1) := by decide +kernel
theorem dL_law_225 : decode cL_law 225 = .ok (.iconst 1, 1) := by decide +kernel
theorem dL_law_226 : decode cL_law 226 = .ok (.iadd, 1) := by decide +kernel
theorem dL_law_227 : decode cL_law 227 = .ok (.iaload, 1) := by decide +kernel
theorem dL_law_228 : decode cL_law 228 = .ok (.invokevirtual 30, 3) := by decide +kernel
theorem dL_law_231 : decode cL_law 231 = .ok (.if_icmp .eq 230, 3) := by decide +kernel
theorem dL_law_234 : decode cL_law 234 = .ok (.iconst 0, 1) := by decide +kernel
theorem dL_law_235 : decode cL_law 235 = .ok (.ireturn, 1) := by decide +kernel
theorem dL_law_236 : decode cL_law 236 = .ok (.aload_n 1, 1) := by decide +kernel
theorem dL_law_237 : decode cL_law 237 = .ok (.aload_n 0, 1) := by decide +kernel
theorem dL_law_238 : decode cL_law 238 = .ok (.iload_n 3, 1) := by decide +kernel
theorem dL_law_239 : decode cL_law 239 = .ok (.iconst 1, 1) := by decide +kernel
theorem dL_law_240 : decode cL_law 240 = .ok (.iadd, 1) := by decide +kernel
theorem dL_law_241 : decode cL_law 241 = .ok (.iaload, 1) := by decide +kernel
theorem dL_law_242 : decode cL_law 242 = .ok (.invokevirtual 31, 3) := by decide +kernel
theorem dL_law_245 : decode cL_law 245 = .ok (.aload_n 2, 1) := by decide +kernel
theorem dL_law_246 : decode cL_law 246 = .ok (.aload_n 0, 1) := by decide +kernel
theorem dL_law_247 : decode cL_law 247 = .ok (.iload_n 3, 1) := by decide +kernel
theorem dL_law_248 : decode cL_law 248 = .ok (.iconst 1, 1) := by decide +kernel
theorem dL_law_249 : decode cL_law 249 = .ok (.iadd, 1) := by decide +kernel
theorem dL_law_250 : decode cL_law 250 = .ok (.iaload, 1) := by decide +kernel
theorem dL_law_251 : decode cL_law 251 = .ok (.invokevirtual 35, 3) := by decide +kernel
theorem dL_law_254 : decode cL_law 254 = .ok (.if_icmp .eq 207, 3) := by decide +kernel
theorem dL_law_257 : decode cL_law 257 = .ok (.iconst 0, 1) := by decide +kernel
theorem dL_law_258 : decode cL_law 258 = .ok (.ireturn, 1) := by decide +kernel
theorem dL_law_259 : decode cL_law 259 = .ok (.aload_n 1, 1) := by decide +kernel
theorem dL_law_260 : decode cL_law 260 = .ok (.invokevirtual 36, 3) := by decide +kernel
theorem dL_law_263 : decode cL_law 263 = .ok (.aload_n 2, 1) := by decide +kernel
theorem dL_law_264 : decode cL_law 264 = .ok (.invokevirtual 40, 3) := by decide +kernel
theorem dL_law_267 : decode cL_law 267 = .ok (.if_icmp .eq 194, 3) := by decide +kernel
theorem dL_law_270 : decode cL_law 270 = .ok (.iconst 0, 1) := by decide +kernel
theorem dL_law_271 : decode cL_law 271 = .ok (.ireturn, 1) := by decide +kernel
theorem dL_law_272 : decode cL_law 272 = .ok (.aload_n 1, 1) := by decide +kernel
theorem dL_law_273 : decode cL_law 273 = .ok (.invokevirtual 41, 3) := by decide +kernel
theorem dL_law_276 : decode cL_law 276 = .ok (.aload_n 2, 1) := by decide +kernel
theorem dL_law_277 : decode cL_law 277 = .ok (.invokevirtual 44, 3) := by decide +kernel
theorem dL_law_280 : decode cL_law 280 = .ok (.if_icmp .eq 181, 3) := by decide +kernel
theorem dL_law_283 : decode cL_law 283 = .ok (.iconst 0, 1) := by decide +kernel
theorem dL_law_284 : decode cL_law 284 = .ok (.ireturn, 1) := by decide +kernel
theorem dL_law_285 : decode cL_law 285 = .ok (.aload_n 1, 1) := by decide +kernel
theorem dL_law_286 : decode cL_law 286 = .ok (.aload_n 0, 1) := by decide +kernel
theorem dL_law_287 : decode cL_law 287 = .ok (.iload_n 3, 1) := by decide +kernel
theorem dL_law_288 : decode cL_law 288 = .ok (.iconst 1, 1) := by decide +kernel
theorem dL_law_289 : decode cL_law 289 = .ok (.iadd, 1) := by decide +kernel
theorem dL_law_290 : decode cL_law 290 = .ok (.iaload, 1) := by decide +kernel
theorem dL_law_291 : decode cL_law 291 = .ok (.invokevirtual 45, 3) := by decide +kernel
theorem dL_law_294 : decode cL_law 294 = .ok (.aload_n 2, 1) := by decide +kernel
theorem dL_law_295 : decode cL_law 295 = .ok (.aload_n 0, 1) := by decide +kernel
theorem dL_law_296 : decode cL_law 296 = .ok (.iload_n 3, 1) := by decide +kernel
theorem dL_law_297 : decode cL_law 297 = .ok (.iconst 1, 1) := by decide +kernel
theorem dL_law_298 : decode cL_law 298 = .ok (.iadd, 1) := by decide +kernel
theorem dL_law_299 : decode cL_law 299 = .ok (.iaload, 1) := by decide +kernel
theorem dL_law_300 : decode cL_law 300 = .ok (.invokevirtual 48, 3) := by decide +kernel
theorem dL_law_303 : decode cL_law 303 = .ok (.if_icmp .eq 158, 3) := by decide +kernel
theorem dL_law_306 : decode cL_law 306 = .ok (.iconst 0, 1) := by decide +kernel
theorem dL_law_307 : decode cL_law 307 = .ok (.ireturn, 1) := by decide +kernel
theorem dL_law_308 : decode cL_law 308 = .ok (.aload_n 1, 1) := by decide +kernel
theorem dL_law_309 : decode cL_law 309 = .ok (.aload_n 0, 1) := by decide +kernel
theorem dL_law_310 : decode cL_law 310 = .ok (.iload_n 3, 1) := by decide +kernel
theorem dL_law_311 : decode cL_law 311 = .ok (.iconst 1, 1) := by decide +kernel
theorem dL_law_312 : decode cL_law 312 = .ok (.iadd, 1) := by decide +kernel
theorem dL_law_313 : decode cL_law 313 = .ok (.iaload, 1) := by decide +kernel
theorem dL_law_314 : decode cL_law 314 = .ok (.invokevirtual 49, 3) := by decide +kernel
theorem dL_law_317 : decode cL_law 317 = .ok (.aload_n 2, 1) := by decide +kernel
theorem dL_law_318 : decode cL_law 318 = .ok (.aload_n 0, 1) := by decide +kernel
theorem dL_law_319 : decode cL_law 319 = .ok (.iload_n 3, 1) := by decide +kernel
theorem dL_law_320 : decode cL_law 320 = .ok (.iconst 1, 1) := by decide +kernel
theorem dL_law_321 : decode cL_law 321 = .ok (.iadd, 1) := by decide +kernel
theorem dL_law_322 : decode cL_law 322 = .ok (.iaload, 1) := by decide +kernel
theorem dL_law_323 : decode cL_law 323 = .ok (.invokevirtual 52, 3) := by decide +kernel
theorem dL_law_326 : decode cL_law 326 = .ok (.if_icmp .eq 135, 3) := by decide +kernel
theorem dL_law_329 : decode cL_law 329 = .ok (.iconst 0, 1) := by decide +kernel
theorem dL_law_330 : decode cL_law 330 = .ok (.ireturn, 1) := by decide +kernel
theorem dL_law_331 : decode cL_law 331 = .ok (.aload_n 1, 1) := by decide +kernel
theorem dL_law_332 : decode cL_law 332 = .ok (.invokevirtual 53, 3) := by decide +kernel
theorem dL_law_335 : decode cL_law 335 = .ok (.aload_n 2, 1) := by decide +kernel
theorem dL_law_336 : decode cL_law 336 = .ok (.invokevirtual 56, 3) := by decide +kernel
theorem dL_law_339 : decode cL_law 339 = .ok (.if_icmp .eq 122, 3) := by decide +kernel
theorem dL_law_342 : decode cL_law 342 = .ok (.iconst 0, 1) := by decide +kernel
theorem dL_law_343 : decode cL_law 343 = .ok (.ireturn, 1) := by decide +kernel
theorem dL_law_344 : decode cL_law 344 = .ok (.aload_n 1, 1) := by decide +kernel
theorem dL_law_345 : decode cL_law 345 = .ok (.invokevirtual 57, 3) := by decide +kernel
theorem dL_law_348 : decode cL_law 348 = .ok (.aload_n 2, 1) := by decide +kernel
theorem dL_law_349 : decode cL_law 349 = .ok (.invokevirtual 60, 3) := by decide +kernel
theorem dL_law_352 : decode cL_law 352 = .ok (.if_icmp .eq 109, 3) := by decide +kernel
theorem dL_law_355 : decode cL_law 355 = .ok (.iconst 0, 1) := by decide +kernel
theorem dL_law_356 : decode cL_law 356 = .ok (.ireturn, 1) := by decide +kernel
theorem dL_law_357 : decode cL_law 357 = .ok (.aload_n 1, 1) := by decide +kernel
theorem dL_law_358 : decode cL_law 358 = .ok (.invokevirtual 61, 3) := by decide +kernel
theorem dL_law_361 : decode cL_law 361 = .ok (.aload_n 2, 1) := by decide +kernel
theorem dL_law_362 : decode cL_law 362 = .ok (.invokevirtual 64, 3) := by decide +kernel
theorem dL_law_365 : decode cL_law 365 = .ok (.if_icmp .eq 96, 3) := by decide +kernel
theorem dL_law_368 : decode cL_law 368 = .ok (.iconst 0, 1) := by decide +kernel
theorem dL_law_369 : decode cL_law 369 = .ok (.ireturn, 1) := by decide +kernel
theorem dL_law_370 : decode cL_law 370 = .ok (.aload_n 1, 1) := by decide +kernel
theorem dL_law_371 : decode cL_law 371 = .ok (.invokevirtual 65, 3) := by decide +kernel
theorem dL_law_374 : decode cL_law 374 = .ok (.aload_n 2, 1) := by decide +kernel
theorem dL_law_375 : decode cL_law 375 = .ok (.invokevirtual 68, 3) := by decide +kernel
theorem dL_law_378 : decode cL_law 378 = .ok (.if_icmp .eq 83, 3) := by decide +kernel
theorem dL_law_381 : decode cL_law 381 = .ok (.iconst 0, 1) := by decide +kernel
theorem dL_law_382 : decode cL_law 382 = .ok (.ireturn, 1) := by decide +kernel
theorem dL_law_383 : decode cL_law 383 = .ok (.aload_n 1, 1) := by decide +kernel
theorem dL_law_384 : decode cL_law 384 = .ok (.invokevirtual 69, 3) := by decide +kernel
theorem dL_law_387 : decode cL_law 387 = .ok (.aload_n 2, 1) := by decide +kernel
theorem dL_law_388 : decode cL_law 388 = .ok (.invokevirtual 72, 3) := by decide +kernel
theorem dL_law_391 : decode cL_law 391 = .ok (.if_icmp .eq 70, 3) := by decide +kernel
theorem dL_law_394 : decode cL_law 394 = .ok (.iconst 0, 1) := by decide +kernel
theorem dL_law_395 : decode cL_law 395 = .ok (.ireturn, 1) := by decide +kernel
theorem dL_law_396 : decode cL_law 396 = .ok (.aload_n 1, 1) := by decide +kernel
theorem dL_law_397 : decode cL_law 397 = .ok (.invokevirtual 73, 3) := by decide +kernel
theorem dL_law_400 : decode cL_law 400 = .ok (.aload_n 2, 1) := by decide +kernel
theorem dL_law_401 : decode cL_law 401 = .ok (.invokevirtual 76, 3) := by decide +kernel
theorem dL_law_404 : decode cL_law 404 = .ok (.if_icmp .eq 57, 3) := by decide +kernel
theorem dL_law_407 : decode cL_law 407 = .ok (.iconst 0, 1) := by decide +kernel
theorem dL_law_408 : decode cL_law 408 = .ok (.ireturn, 1) := by decide +kernel
theorem dL_law_409 : decode cL_law 409 = .ok (.aload_n 1, 1) := by decide +kernel
theorem dL_law_410 : decode cL_law 410 = .ok (.invokevirtual 77, 3) := by decide +kernel
theorem dL_law_413 : decode cL_law 413 = .ok (.aload_n 2, 1) := by decide +kernel
theorem dL_law_414 : decode cL_law 414 = .ok (.invokevirtual 80, 3) := by decide +kernel
theorem dL_law_417 : decode cL_law 417 = .ok (.if_icmp .eq 44, 3) := by decide +kernel
theorem dL_law_420 : decode cL_law 420 = .ok (.iconst 0, 1) := by decide +kernel
theorem dL_law_421 : decode cL_law 421 = .ok (.ireturn, 1) := by decide +kernel
theorem dL_law_422 : decode cL_law 422 = .ok (.aload_n 1, 1) := by decide +kernel
theorem dL_law_423 : decode cL_law 423 = .ok (.invokevirtual 81, 3) := by decide +kernel
theorem dL_law_426 : decode cL_law 426 = .ok (.aload_n 2, 1) := by decide +kernel
theorem dL_law_427 : decode cL_law 427 = .ok (.invokevirtual 84, 3) := by decide +kernel
theorem dL_law_430 : decode cL_law 430 = .ok (.if_icmp .eq 31, 3) := by decide +kernel
theorem dL_law_433 : decode cL_law 433 = .ok (.iconst 0, 1) := by decide +kernel
theorem dL_law_434 : decode cL_law 434 = .ok (.ireturn, 1) := by decide +kernel
theorem dL_law_435 : decode cL_law 435 = .ok (.aload_n 1, 1) := by decide +kernel
theorem dL_law_436 : decode cL_law 436 = .ok (.invokevirtual 85, 3) := by decide +kernel
theorem dL_law_439 : decode cL_law 439 = .ok (.aload_n 2, 1) := by decide +kernel
theorem dL_law_440 : decode cL_law 440 = .ok (.invokevirtual 88, 3) := by decide +kernel
theorem dL_law_443 : decode cL_law 443 = .ok (.if_icmp .eq 18, 3) := by decide +kernel
theorem dL_law_446 : decode cL_law 446 = .ok (.iconst 0, 1) := by decide +kernel
theorem dL_law_447 : decode cL_law 447 = .ok (.ireturn, 1) := by decide +kernel
theorem dL_law_448 : decode cL_law 448 = .ok (.aload_n 1, 1) := by decide +kernel
theorem dL_law_449 : decode cL_law 449 = .ok (.invokevirtual 89, 3) := by decide +kernel
theorem dL_law_452 : decode cL_law 452 = .ok (.aload_n 2, 1) := by decide +kernel
theorem dL_law_453 : decode cL_law 453 = .ok (.invokevirtual 92, 3) := by decide +kernel
theorem dL_law_456 : decode cL_law 456 = .ok (.if_icmp .eq 5, 3) := by decide +kernel
theorem dL_law_459 : decode cL_law 459 = .ok (.iconst 0, 1) := by decide +kernel
theorem dL_law_460 : decode cL_law 460 = .ok (.ireturn, 1) := by decide +kernel
theorem dL_law_461 : decode cL_law 461 = .ok (.iinc 3 3, 3) := by decide +kernel
theorem dL_law_464 : decode cL_law 464 = .ok (.goto (-446), 3) := by decide +kernel
theorem dL_law_467 : decode cL_law 467 = .ok (.iconst 1, 1) := by decide +kernel
theorem dL_law_468 : decode cL_law 468 = .ok (.ireturn, 1) := by decide +kernel
abbrev vwCl : List vw_C := [(RX0, TX0, 18)]
