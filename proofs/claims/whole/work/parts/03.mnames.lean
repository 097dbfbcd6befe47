abbrev RXM : String := RX1
def TXM : u_T := fun k => match k with
  | 0 => ("BloodCircuitChannelsModel", "value", "[I", true)
  | 1 => ("BloodCircuitChannelsModel", "raw", "[I", true)
  | 2 => ("BloodCircuitChannelsModel", "seen", "[I", true)
  | 3 => ("BloodCircuitChannelsModel", "phase", "I", false)
  | 4 => ("BloodCircuitChannelsModel", "stands", "I", false)
  | 5 => ("BloodCircuitChannelsModel", "holds", "I", false)
  | 6 => ("BloodCircuitChannelsModel", "out", "I", false)
  | 7 => ("BloodCircuitChannelsModel", "other", "I", false)
  | 8 => ("BloodCircuitChannelsModel", "now", "I", false)
  | 9 => ("BloodCircuitChannelsModel", "plausible", "[I", true)
  | 10 => ("BloodCircuitChannelsModel", "arterialIn", "I", false)
  | 11 => ("BloodCircuitChannelsModel", "venousIn", "I", false)
  | 12 => ("BloodCircuitChannelsModel", "fluidFine", "I", false)
  | 13 => ("BloodCircuitChannelsModel", "fluidOff", "I", false)
  | 14 => ("BloodCircuitChannelsModel", "effectiveTicks", "I", false)
  | 15 => ("BloodCircuitChannelsModel", "commanded", "I", false)
  | 16 => ("BloodCircuitChannelsModel", "made", "I", false)
  | 17 => ("BloodCircuitChannelsModel", "tripped", "I", false)
  | _ => ("BloodCircuitChannelsModel", "towards", "I", false)
def tyXM : Nat → FieldType := fun k => match k with
  | 0 => .array .int
  | 1 => .array .int
  | 2 => .array .int
  | 3 => .int
  | 4 => .int
  | 5 => .int
  | 6 => .int
  | 7 => .int
  | 8 => .int
  | 9 => .array .int
  | 10 => .int
  | 11 => .int
  | 12 => .int
  | 13 => .int
  | 14 => .int
  | 15 => .int
  | 16 => .int
  | 17 => .int
  | _ => .int
abbrev wsXM0 : List Cond := u_ws RXM TXM 19
theorem nmXM : ∀ a, a < 19 → ∀ b, b < 19 → a ≠ b → (TXM a).2.1 ≠ (TXM b).2.1 := by decide +kernel
theorem tyXM_ok : ∀ k, k < 19 → parseFieldDescriptor (TXM k).2.2.1 = some (tyXM k) := by decide +kernel
abbrev vwC2 : List vw_C := [(RX0, TX0, 18), (RXM, TXM, 19)]
abbrev cXM_init : ByteArray := prog_3_method_1_code
def yXM_init : MethodName := ⟨RXM, "<init>", "()V"⟩
abbrev cXM_set : ByteArray := prog_3_method_6_code
def yXM_set : MethodName := ⟨RXM, "set", "(II)Z"⟩
abbrev cXM_least : ByteArray := prog_3_method_2_code
def yXM_least : MethodName := ⟨RXM, "least", "(I)I"⟩
abbrev cXM_most : ByteArray := prog_3_method_3_code
def yXM_most : MethodName := ⟨RXM, "most", "(I)I"⟩
abbrev cXM_parameter : ByteArray := prog_3_method_7_code
def yXM_parameter : MethodName := ⟨RXM, "parameter", "(I)I"⟩
abbrev cXM_sense : ByteArray := prog_3_method_8_code
def yXM_sense : MethodName := ⟨RXM, "sense", "(II)Z"⟩
abbrev cXM_conditioned : ByteArray := prog_3_method_9_code
def yXM_conditioned : MethodName := ⟨RXM, "conditioned", "(I)I"⟩
abbrev cXM_faulty : ByteArray := prog_3_method_10_code
def yXM_faulty : MethodName := ⟨RXM, "faulty", "(I)Z"⟩
abbrev cXM_next : ByteArray := prog_3_method_12_code
def yXM_next : MethodName := ⟨RXM, "next", "()I"⟩
abbrev cXM_consistent : ByteArray := prog_3_method_4_code
def yXM_consistent : MethodName := ⟨RXM, "consistent", "()Z"⟩
abbrev cXM_enter : ByteArray := prog_3_method_11_code
def yXM_enter : MethodName := ⟨RXM, "enter", "(I)V"⟩
abbrev cXM_acknowledge : ByteArray := prog_3_method_13_code
def yXM_acknowledge : MethodName := ⟨RXM, "acknowledge", "()I"⟩
abbrev cXM_substitute : ByteArray := prog_3_method_14_code
def yXM_substitute : MethodName := ⟨RXM, "substitute", "(I)Z"⟩
abbrev cXM_tick : ByteArray := prog_3_method_23_code
def yXM_tick : MethodName := ⟨RXM, "tick", "(I)I"⟩
abbrev cXM_one : ByteArray := prog_3_method_22_code
def yXM_one : MethodName := ⟨RXM, "one", "()Z"⟩
abbrev cXM_condition : ByteArray := prog_3_method_18_code
def yXM_condition : MethodName := ⟨RXM, "condition", "()V"⟩
abbrev cXM_isPlausible : ByteArray := prog_3_method_5_code
def yXM_isPlausible : MethodName := ⟨RXM, "isPlausible", "(I)Z"⟩
abbrev cXM_onPatient : ByteArray := prog_3_method_15_code
def yXM_onPatient : MethodName := ⟨RXM, "onPatient", "()Z"⟩
abbrev cXM_outside : ByteArray := prog_3_method_17_code
def yXM_outside : MethodName := ⟨RXM, "outside", "(III)Z"⟩
abbrev cXM_off : ByteArray := prog_3_method_16_code
def yXM_off : MethodName := ⟨RXM, "off", "()Z"⟩
abbrev cXM_conditionsNow : ByteArray := prog_3_method_19_code
def yXM_conditionsNow : MethodName := ⟨RXM, "conditionsNow", "()I"⟩
abbrev cXM_commands : ByteArray := prog_3_method_20_code
def yXM_commands : MethodName := ⟨RXM, "commands", "()I"⟩
abbrev cXM_guarded : ByteArray := prog_3_method_21_code
def yXM_guarded : MethodName := ⟨RXM, "guarded", "(I)I"⟩
abbrev cXM_phase : ByteArray := prog_3_method_24_code
def yXM_phase : MethodName := ⟨RXM, "phase", "()I"⟩
abbrev cXM_alarms : ByteArray := prog_3_method_25_code
def yXM_alarms : MethodName := ⟨RXM, "alarms", "()I"⟩
abbrev cXM_conditions : ByteArray := prog_3_method_26_code
def yXM_conditions : MethodName := ⟨RXM, "conditions", "()I"⟩
abbrev cXM_outputs : ByteArray := prog_3_method_27_code
def yXM_outputs : MethodName := ⟨RXM, "outputs", "()I"⟩
abbrev cXM_effective : ByteArray := prog_3_method_28_code
def yXM_effective : MethodName := ⟨RXM, "effective", "()I"⟩
abbrev cXM_accounted : ByteArray := prog_3_method_29_code
def yXM_accounted : MethodName := ⟨RXM, "accounted", "()I"⟩
abbrev cXM_strokes : ByteArray := prog_3_method_30_code
def yXM_strokes : MethodName := ⟨RXM, "strokes", "()I"⟩
abbrev cXM_trips : ByteArray := prog_3_method_31_code
def yXM_trips : MethodName := ⟨RXM, "trips", "()I"⟩
abbrev cXM_counted : ByteArray := prog_3_method_32_code
def yXM_counted : MethodName := ⟨RXM, "counted", "()I"⟩
abbrev cXM_steady : ByteArray := prog_3_method_33_code
def yXM_steady : MethodName := ⟨RXM, "steady", "()I"⟩
def wsM : List Cond := [.initialized RXM, .arrayClass .int, .instanceMethod objectInit, .instanceMethod yXM_init, .methodLink RXM 1 objectInit, .fieldLink RXM 7 "BloodCircuitChannelsModel" "value" "[I", .fieldLink RXM 13 "BloodCircuitChannelsModel" "raw" "[I", .fieldLink RXM 16 "BloodCircuitChannelsModel" "seen" "[I", .fieldLink RXM 26 "BloodCircuitChannelsModel" "phase" "I", .fieldLink RXM 58 "BloodCircuitChannelsModel" "stands" "I", .fieldLink RXM 65 "BloodCircuitChannelsModel" "holds" "I", .fieldLink RXM 116 "BloodCircuitChannelsModel" "out" "I", .fieldLink RXM 19 "BloodCircuitChannelsModel" "other" "I", .fieldLink RXM 36 "BloodCircuitChannelsModel" "now" "I", .fieldLink RXM 23 "BloodCircuitChannelsModel" "plausible" "[I", .fieldLink RXM 79 "BloodCircuitChannelsModel" "arterialIn" "I", .fieldLink RXM 82 "BloodCircuitChannelsModel" "venousIn" "I", .fieldLink RXM 88 "BloodCircuitChannelsModel" "fluidFine" "I", .fieldLink RXM 55 "BloodCircuitChannelsModel" "fluidOff" "I", .fieldLink RXM 42 "BloodCircuitChannelsModel" "effectiveTicks" "I", .fieldLink RXM 45 "BloodCircuitChannelsModel" "commanded" "I", .fieldLink RXM 48 "BloodCircuitChannelsModel" "made" "I", .fieldLink RXM 100 "BloodCircuitChannelsModel" "tripped" "I", .fieldLink RXM 39 "BloodCircuitChannelsModel" "towards" "I", .instanceMethod yXM_set, .selects RXM yXM_set yXM_set, .methodLink RXM 29 yXM_least, .static yXM_least, .methodLink RXM 33 yXM_most, .static yXM_most, .instanceMethod yXM_parameter, .selects RXM yXM_parameter yXM_parameter, .instanceMethod yXM_sense, .selects RXM yXM_sense yXM_sense, .instanceMethod yXM_conditioned, .selects RXM yXM_conditioned yXM_conditioned, .instanceMethod yXM_faulty, .selects RXM yXM_faulty yXM_faulty, .instanceMethod yXM_next, .selects RXM yXM_next yXM_next, .methodLink RXM 51 yXM_consistent, .instanceMethod yXM_consistent, .methodLink RXM 61 yXM_enter, .instanceMethod yXM_enter, .instanceMethod yXM_acknowledge, .selects RXM yXM_acknowledge yXM_acknowledge, .instanceMethod yXM_substitute, .selects RXM yXM_substitute yXM_substitute, .instanceMethod yXM_tick, .selects RXM yXM_tick yXM_tick, .methodLink RXM 119 yXM_one, .instanceMethod yXM_one, .methodLink RXM 103 yXM_condition, .instanceMethod yXM_condition, .methodLink RXM 68 yXM_isPlausible, .instanceMethod yXM_isPlausible, .methodLink RXM 72 yXM_onPatient, .instanceMethod yXM_onPatient, .methodLink RXM 75 yXM_outside, .instanceMethod yXM_outside, .methodLink RXM 85 yXM_off, .instanceMethod yXM_off, .methodLink RXM 106 yXM_conditionsNow, .instanceMethod yXM_conditionsNow, .methodLink RXM 91 yXM_faulty, .methodLink RXM 110 yXM_commands, .instanceMethod yXM_commands, .constantLong RXM 94 1000, .constantLong RXM 96 600, .constantLong RXM 98 500, .methodLink RXM 113 yXM_guarded, .instanceMethod yXM_guarded, .instanceMethod yXM_phase, .selects RXM yXM_phase yXM_phase, .instanceMethod yXM_alarms, .selects RXM yXM_alarms yXM_alarms, .instanceMethod yXM_conditions, .selects RXM yXM_conditions yXM_conditions, .instanceMethod yXM_outputs, .selects RXM yXM_outputs yXM_outputs, .instanceMethod yXM_effective, .selects RXM yXM_effective yXM_effective, .instanceMethod yXM_accounted, .selects RXM yXM_accounted yXM_accounted, .instanceMethod yXM_strokes, .selects RXM yXM_strokes yXM_strokes, .instanceMethod yXM_trips, .selects RXM yXM_trips yXM_trips, .instanceMethod yXM_counted, .selects RXM yXM_counted yXM_counted, .instanceMethod yXM_steady, .selects RXM yXM_steady yXM_steady, .selects RXM yXM_consistent yXM_consistent, .selects RXM yXM_enter yXM_enter, .selects RXM yXM_one yXM_one, .selects RXM yXM_condition yXM_condition, .selects RXM yXM_isPlausible yXM_isPlausible, .selects RXM yXM_onPatient yXM_onPatient, .selects RXM yXM_outside yXM_outside, .selects RXM yXM_off yXM_off, .selects RXM yXM_conditionsNow yXM_conditionsNow, .selects RXM yXM_commands yXM_commands, .selects RXM yXM_guarded yXM_guarded, .code objectInit ⟨#[0xb1]⟩ 1 none, .code yXM_init cXM_init 2 none, .code yXM_set cXM_set 3 (some .boolean), .code yXM_least cXM_least 1 (some .int), .code yXM_most cXM_most 2 (some .int), .code yXM_parameter cXM_parameter 2 (some .int), .code yXM_sense cXM_sense 3 (some .boolean), .code yXM_conditioned cXM_conditioned 2 (some .int), .code yXM_faulty cXM_faulty 2 (some .boolean), .code yXM_next cXM_next 2 (some .int), .code yXM_consistent cXM_consistent 1 (some .boolean), .code yXM_enter cXM_enter 2 none, .code yXM_acknowledge cXM_acknowledge 1 (some .int), .code yXM_substitute cXM_substitute 2 (some .boolean), .code yXM_tick cXM_tick 4 (some .int), .code yXM_one cXM_one 4 (some .boolean), .code yXM_condition cXM_condition 2 none, .code yXM_isPlausible cXM_isPlausible 4 (some .boolean), .code yXM_onPatient cXM_onPatient 1 (some .boolean), .code yXM_outside cXM_outside 4 (some .boolean), .code yXM_off cXM_off 3 (some .boolean), .code yXM_conditionsNow cXM_conditionsNow 4 (some .int), .code yXM_commands cXM_commands 5 (some .int), .code yXM_guarded cXM_guarded 4 (some .int), .code yXM_phase cXM_phase 1 (some .int), .code yXM_alarms cXM_alarms 1 (some .int), .code yXM_conditions cXM_conditions 1 (some .int), .code yXM_outputs cXM_outputs 1 (some .int), .code yXM_effective cXM_effective 1 (some .int), .code yXM_accounted cXM_accounted 1 (some .int), .code yXM_strokes cXM_strokes 1 (some .int), .code yXM_trips cXM_trips 1 (some .int), .code yXM_counted cXM_counted 1 (some .int), .code yXM_steady cXM_steady 1 (some .int)]
theorem wM_0 : (.initialized RXM : Cond) ∈ wsM := List.mem_of_getElem? (i := 0) rfl
theorem wM_1 : (.arrayClass .int : Cond) ∈ wsM := List.mem_of_getElem? (i := 1) rfl
theorem wM_2 : (.instanceMethod objectInit : Cond) ∈ wsM := List.mem_of_getElem? (i := 2) rfl
theorem wM_3 : (.instanceMethod yXM_init : Cond) ∈ wsM := List.mem_of_getElem? (i := 3) rfl
theorem wM_4 : (.methodLink RXM 1 objectInit : Cond) ∈ wsM := List.mem_of_getElem? (i := 4) rfl
theorem wM_5 : (.fieldLink RXM 7 "BloodCircuitChannelsModel" "value" "[I" : Cond) ∈ wsM := List.mem_of_getElem? (i := 5) rfl
theorem wM_6 : (.fieldLink RXM 13 "BloodCircuitChannelsModel" "raw" "[I" : Cond) ∈ wsM := List.mem_of_getElem? (i := 6) rfl
theorem wM_7 : (.fieldLink RXM 16 "BloodCircuitChannelsModel" "seen" "[I" : Cond) ∈ wsM := List.mem_of_getElem? (i := 7) rfl
theorem wM_8 : (.fieldLink RXM 26 "BloodCircuitChannelsModel" "phase" "I" : Cond) ∈ wsM := List.mem_of_getElem? (i := 8) rfl
theorem wM_9 : (.fieldLink RXM 58 "BloodCircuitChannelsModel" "stands" "I" : Cond) ∈ wsM := List.mem_of_getElem? (i := 9) rfl
theorem wM_10 : (.fieldLink RXM 65 "BloodCircuitChannelsModel" "holds" "I" : Cond) ∈ wsM := List.mem_of_getElem? (i := 10) rfl
theorem wM_11 : (.fieldLink RXM 116 "BloodCircuitChannelsModel" "out" "I" : Cond) ∈ wsM := List.mem_of_getElem? (i := 11) rfl
theorem wM_12 : (.fieldLink RXM 19 "BloodCircuitChannelsModel" "other" "I" : Cond) ∈ wsM := List.mem_of_getElem? (i := 12) rfl
theorem wM_13 : (.fieldLink RXM 36 "BloodCircuitChannelsModel" "now" "I" : Cond) ∈ wsM := List.mem_of_getElem? (i := 13) rfl
theorem wM_14 : (.fieldLink RXM 23 "BloodCircuitChannelsModel" "plausible" "[I" : Cond) ∈ wsM := List.mem_of_getElem? (i := 14) rfl
theorem wM_15 : (.fieldLink RXM 79 "BloodCircuitChannelsModel" "arterialIn" "I" : Cond) ∈ wsM := List.mem_of_getElem? (i := 15) rfl
theorem wM_16 : (.fieldLink RXM 82 "BloodCircuitChannelsModel" "venousIn" "I" : Cond) ∈ wsM := List.mem_of_getElem? (i := 16) rfl
theorem wM_17 : (.fieldLink RXM 88 "BloodCircuitChannelsModel" "fluidFine" "I" : Cond) ∈ wsM := List.mem_of_getElem? (i := 17) rfl
theorem wM_18 : (.fieldLink RXM 55 "BloodCircuitChannelsModel" "fluidOff" "I" : Cond) ∈ wsM := List.mem_of_getElem? (i := 18) rfl
theorem wM_19 : (.fieldLink RXM 42 "BloodCircuitChannelsModel" "effectiveTicks" "I" : Cond) ∈ wsM := List.mem_of_getElem? (i := 19) rfl
theorem wM_20 : (.fieldLink RXM 45 "BloodCircuitChannelsModel" "commanded" "I" : Cond) ∈ wsM := List.mem_of_getElem? (i := 20) rfl
theorem wM_21 : (.fieldLink RXM 48 "BloodCircuitChannelsModel" "made" "I" : Cond) ∈ wsM := List.mem_of_getElem? (i := 21) rfl
theorem wM_22 : (.fieldLink RXM 100 "BloodCircuitChannelsModel" "tripped" "I" : Cond) ∈ wsM := List.mem_of_getElem? (i := 22) rfl
theorem wM_23 : (.fieldLink RXM 39 "BloodCircuitChannelsModel" "towards" "I" : Cond) ∈ wsM := List.mem_of_getElem? (i := 23) rfl
theorem wM_24 : (.instanceMethod yXM_set : Cond) ∈ wsM := List.mem_of_getElem? (i := 24) rfl
theorem wM_25 : (.selects RXM yXM_set yXM_set : Cond) ∈ wsM := List.mem_of_getElem? (i := 25) rfl
theorem wM_26 : (.methodLink RXM 29 yXM_least : Cond) ∈ wsM := List.mem_of_getElem? (i := 26) rfl
theorem wM_27 : (.static yXM_least : Cond) ∈ wsM := List.mem_of_getElem? (i := 27) rfl
theorem wM_28 : (.methodLink RXM 33 yXM_most : Cond) ∈ wsM := List.mem_of_getElem? (i := 28) rfl
theorem wM_29 : (.static yXM_most : Cond) ∈ wsM := List.mem_of_getElem? (i := 29) rfl
theorem wM_30 : (.instanceMethod yXM_parameter : Cond) ∈ wsM := List.mem_of_getElem? (i := 30) rfl
theorem wM_31 : (.selects RXM yXM_parameter yXM_parameter : Cond) ∈ wsM := List.mem_of_getElem? (i := 31) rfl
theorem wM_32 : (.instanceMethod yXM_sense : Cond) ∈ wsM := List.mem_of_getElem? (i := 32) rfl
theorem wM_33 : (.selects RXM yXM_sense yXM_sense : Cond) ∈ wsM := List.mem_of_getElem? (i := 33) rfl
theorem wM_34 : (.instanceMethod yXM_conditioned : Cond) ∈ wsM := List.mem_of_getElem? (i := 34) rfl
theorem wM_35 : (.selects RXM yXM_conditioned yXM_conditioned : Cond) ∈ wsM := List.mem_of_getElem? (i := 35) rfl
theorem wM_36 : (.instanceMethod yXM_faulty : Cond) ∈ wsM := List.mem_of_getElem? (i := 36) rfl
theorem wM_37 : (.selects RXM yXM_faulty yXM_faulty : Cond) ∈ wsM := List.mem_of_getElem? (i := 37) rfl
theorem wM_38 : (.instanceMethod yXM_next : Cond) ∈ wsM := List.mem_of_getElem? (i := 38) rfl
theorem wM_39 : (.selects RXM yXM_next yXM_next : Cond) ∈ wsM := List.mem_of_getElem? (i := 39) rfl
theorem wM_40 : (.methodLink RXM 51 yXM_consistent : Cond) ∈ wsM := List.mem_of_getElem? (i := 40) rfl
theorem wM_41 : (.instanceMethod yXM_consistent : Cond) ∈ wsM := List.mem_of_getElem? (i := 41) rfl
theorem wM_42 : (.methodLink RXM 61 yXM_enter : Cond) ∈ wsM := List.mem_of_getElem? (i := 42) rfl
theorem wM_43 : (.instanceMethod yXM_enter : Cond) ∈ wsM := List.mem_of_getElem? (i := 43) rfl
theorem wM_44 : (.instanceMethod yXM_acknowledge : Cond) ∈ wsM := List.mem_of_getElem? (i := 44) rfl
theorem wM_45 : (.selects RXM yXM_acknowledge yXM_acknowledge : Cond) ∈ wsM := List.mem_of_getElem? (i := 45) rfl
theorem wM_46 : (.instanceMethod yXM_substitute : Cond) ∈ wsM := List.mem_of_getElem? (i := 46) rfl
theorem wM_47 : (.selects RXM yXM_substitute yXM_substitute : Cond) ∈ wsM := List.mem_of_getElem? (i := 47) rfl
theorem wM_48 : (.instanceMethod yXM_tick : Cond) ∈ wsM := List.mem_of_getElem? (i := 48) rfl
theorem wM_49 : (.selects RXM yXM_tick yXM_tick : Cond) ∈ wsM := List.mem_of_getElem? (i := 49) rfl
theorem wM_50 : (.methodLink RXM 119 yXM_one : Cond) ∈ wsM := List.mem_of_getElem? (i := 50) rfl
theorem wM_51 : (.instanceMethod yXM_one : Cond) ∈ wsM := List.mem_of_getElem? (i := 51) rfl
theorem wM_52 : (.methodLink RXM 103 yXM_condition : Cond) ∈ wsM := List.mem_of_getElem? (i := 52) rfl
theorem wM_53 : (.instanceMethod yXM_condition : Cond) ∈ wsM := List.mem_of_getElem? (i := 53) rfl
theorem wM_54 : (.methodLink RXM 68 yXM_isPlausible : Cond) ∈ wsM := List.mem_of_getElem? (i := 54) rfl
theorem wM_55 : (.instanceMethod yXM_isPlausible : Cond) ∈ wsM := List.mem_of_getElem? (i := 55) rfl
theorem wM_56 : (.methodLink RXM 72 yXM_onPatient : Cond) ∈ wsM := List.mem_of_getElem? (i := 56) rfl
theorem wM_57 : (.instanceMethod yXM_onPatient : Cond) ∈ wsM := List.mem_of_getElem? (i := 57) rfl
theorem wM_58 : (.methodLink RXM 75 yXM_outside : Cond) ∈ wsM := List.mem_of_getElem? (i := 58) rfl
theorem wM_59 : (.instanceMethod yXM_outside : Cond) ∈ wsM := List.mem_of_getElem? (i := 59) rfl
theorem wM_60 : (.methodLink RXM 85 yXM_off : Cond) ∈ wsM := List.mem_of_getElem? (i := 60) rfl
theorem wM_61 : (.instanceMethod yXM_off : Cond) ∈ wsM := List.mem_of_getElem? (i := 61) rfl
theorem wM_62 : (.methodLink RXM 106 yXM_conditionsNow : Cond) ∈ wsM := List.mem_of_getElem? (i := 62) rfl
theorem wM_63 : (.instanceMethod yXM_conditionsNow : Cond) ∈ wsM := List.mem_of_getElem? (i := 63) rfl
theorem wM_64 : (.methodLink RXM 91 yXM_faulty : Cond) ∈ wsM := List.mem_of_getElem? (i := 64) rfl
theorem wM_65 : (.methodLink RXM 110 yXM_commands : Cond) ∈ wsM := List.mem_of_getElem? (i := 65) rfl
theorem wM_66 : (.instanceMethod yXM_commands : Cond) ∈ wsM := List.mem_of_getElem? (i := 66) rfl
theorem wM_67 : (.constantLong RXM 94 1000 : Cond) ∈ wsM := List.mem_of_getElem? (i := 67) rfl
theorem wM_68 : (.constantLong RXM 96 600 : Cond) ∈ wsM := List.mem_of_getElem? (i := 68) rfl
theorem wM_69 : (.constantLong RXM 98 500 : Cond) ∈ wsM := List.mem_of_getElem? (i := 69) rfl
theorem wM_70 : (.methodLink RXM 113 yXM_guarded : Cond) ∈ wsM := List.mem_of_getElem? (i := 70) rfl
theorem wM_71 : (.instanceMethod yXM_guarded : Cond) ∈ wsM := List.mem_of_getElem? (i := 71) rfl
theorem wM_72 : (.instanceMethod yXM_phase : Cond) ∈ wsM := List.mem_of_getElem? (i := 72) rfl
theorem wM_73 : (.selects RXM yXM_phase yXM_phase : Cond) ∈ wsM := List.mem_of_getElem? (i := 73) rfl
theorem wM_74 : (.instanceMethod yXM_alarms : Cond) ∈ wsM := List.mem_of_getElem? (i := 74) rfl
theorem wM_75 : (.selects RXM yXM_alarms yXM_alarms : Cond) ∈ wsM := List.mem_of_getElem? (i := 75) rfl
theorem wM_76 : (.instanceMethod yXM_conditions : Cond) ∈ wsM := List.mem_of_getElem? (i := 76) rfl
theorem wM_77 : (.selects RXM yXM_conditions yXM_conditions : Cond) ∈ wsM := List.mem_of_getElem? (i := 77) rfl
theorem wM_78 : (.instanceMethod yXM_outputs : Cond) ∈ wsM := List.mem_of_getElem? (i := 78) rfl
theorem wM_79 : (.selects RXM yXM_outputs yXM_outputs : Cond) ∈ wsM := List.mem_of_getElem? (i := 79) rfl
theorem wM_80 : (.instanceMethod yXM_effective : Cond) ∈ wsM := List.mem_of_getElem? (i := 80) rfl
theorem wM_81 : (.selects RXM yXM_effective yXM_effective : Cond) ∈ wsM := List.mem_of_getElem? (i := 81) rfl
theorem wM_82 : (.instanceMethod yXM_accounted : Cond) ∈ wsM := List.mem_of_getElem? (i := 82) rfl
theorem wM_83 : (.selects RXM yXM_accounted yXM_accounted : Cond) ∈ wsM := List.mem_of_getElem? (i := 83) rfl
theorem wM_84 : (.instanceMethod yXM_strokes : Cond) ∈ wsM := List.mem_of_getElem? (i := 84) rfl
theorem wM_85 : (.selects RXM yXM_strokes yXM_strokes : Cond) ∈ wsM := List.mem_of_getElem? (i := 85) rfl
theorem wM_86 : (.instanceMethod yXM_trips : Cond) ∈ wsM := List.mem_of_getElem? (i := 86) rfl
theorem wM_87 : (.selects RXM yXM_trips yXM_trips : Cond) ∈ wsM := List.mem_of_getElem? (i := 87) rfl
theorem wM_88 : (.instanceMethod yXM_counted : Cond) ∈ wsM := List.mem_of_getElem? (i := 88) rfl
theorem wM_89 : (.selects RXM yXM_counted yXM_counted : Cond) ∈ wsM := List.mem_of_getElem? (i := 89) rfl
theorem wM_90 : (.instanceMethod yXM_steady : Cond) ∈ wsM := List.mem_of_getElem? (i := 90) rfl
theorem wM_91 : (.selects RXM yXM_steady yXM_steady : Cond) ∈ wsM := List.mem_of_getElem? (i := 91) rfl
theorem wM_92 : (.selects RXM yXM_consistent yXM_consistent : Cond) ∈ wsM := List.mem_of_getElem? (i := 92) rfl
theorem wM_93 : (.selects RXM yXM_enter yXM_enter : Cond) ∈ wsM := List.mem_of_getElem? (i := 93) rfl
theorem wM_94 : (.selects RXM yXM_one yXM_one : Cond) ∈ wsM := List.mem_of_getElem? (i := 94) rfl
theorem wM_95 : (.selects RXM yXM_condition yXM_condition : Cond) ∈ wsM := List.mem_of_getElem? (i := 95) rfl
theorem wM_96 : (.selects RXM yXM_isPlausible yXM_isPlausible : Cond) ∈ wsM := List.mem_of_getElem? (i := 96) rfl
theorem wM_97 : (.selects RXM yXM_onPatient yXM_onPatient : Cond) ∈ wsM := List.mem_of_getElem? (i := 97) rfl
theorem wM_98 : (.selects RXM yXM_outside yXM_outside : Cond) ∈ wsM := List.mem_of_getElem? (i := 98) rfl
theorem wM_99 : (.selects RXM yXM_off yXM_off : Cond) ∈ wsM := List.mem_of_getElem? (i := 99) rfl
theorem wM_100 : (.selects RXM yXM_conditionsNow yXM_conditionsNow : Cond) ∈ wsM := List.mem_of_getElem? (i := 100) rfl
theorem wM_101 : (.selects RXM yXM_commands yXM_commands : Cond) ∈ wsM := List.mem_of_getElem? (i := 101) rfl
theorem wM_102 : (.selects RXM yXM_guarded yXM_guarded : Cond) ∈ wsM := List.mem_of_getElem? (i := 102) rfl
theorem wM_103 : (.code objectInit ⟨#[0xb1]⟩ 1 none : Cond) ∈ wsM := List.mem_of_getElem? (i := 103) rfl
theorem wM_104 : (.code yXM_init cXM_init 2 none : Cond) ∈ wsM := List.mem_of_getElem? (i := 104) rfl
theorem wM_105 : (.code yXM_set cXM_set 3 (some .boolean) : Cond) ∈ wsM := List.mem_of_getElem? (i := 105) rfl
theorem wM_106 : (.code yXM_least cXM_least 1 (some .int) : Cond) ∈ wsM := List.mem_of_getElem? (i := 106) rfl
theorem wM_107 : (.code yXM_most cXM_most 2 (some .int) : Cond) ∈ wsM := List.mem_of_getElem? (i := 107) rfl
theorem wM_108 : (.code yXM_parameter cXM_parameter 2 (some .int) : Cond) ∈ wsM := List.mem_of_getElem? (i := 108) rfl
theorem wM_109 : (.code yXM_sense cXM_sense 3 (some .boolean) : Cond) ∈ wsM := List.mem_of_getElem? (i := 109) rfl
theorem wM_110 : (.code yXM_conditioned cXM_conditioned 2 (some .int) : Cond) ∈ wsM := List.mem_of_getElem? (i := 110) rfl
theorem wM_111 : (.code yXM_faulty cXM_faulty 2 (some .boolean) : Cond) ∈ wsM := List.mem_of_getElem? (i := 111) rfl
theorem wM_112 : (.code yXM_next cXM_next 2 (some .int) : Cond) ∈ wsM := List.mem_of_getElem? (i := 112) rfl
theorem wM_113 : (.code yXM_consistent cXM_consistent 1 (some .boolean) : Cond) ∈ wsM := List.mem_of_getElem? (i := 113) rfl
theorem wM_114 : (.code yXM_enter cXM_enter 2 none : Cond) ∈ wsM := List.mem_of_getElem? (i := 114) rfl
theorem wM_115 : (.code yXM_acknowledge cXM_acknowledge 1 (some .int) : Cond) ∈ wsM := List.mem_of_getElem? (i := 115) rfl
theorem wM_116 : (.code yXM_substitute cXM_substitute 2 (some .boolean) : Cond) ∈ wsM := List.mem_of_getElem? (i := 116) rfl
theorem wM_117 : (.code yXM_tick cXM_tick 4 (some .int) : Cond) ∈ wsM := List.mem_of_getElem? (i := 117) rfl
theorem wM_118 : (.code yXM_one cXM_one 4 (some .boolean) : Cond) ∈ wsM := List.mem_of_getElem? (i := 118) rfl
theorem wM_119 : (.code yXM_condition cXM_condition 2 none : Cond) ∈ wsM := List.mem_of_getElem? (i := 119) rfl
theorem wM_120 : (.code yXM_isPlausible cXM_isPlausible 4 (some .boolean) : Cond) ∈ wsM := List.mem_of_getElem? (i := 120) rfl
theorem wM_121 : (.code yXM_onPatient cXM_onPatient 1 (some .boolean) : Cond) ∈ wsM := List.mem_of_getElem? (i := 121) rfl
theorem wM_122 : (.code yXM_outside cXM_outside 4 (some .boolean) : Cond) ∈ wsM := List.mem_of_getElem? (i := 122) rfl
theorem wM_123 : (.code yXM_off cXM_off 3 (some .boolean) : Cond) ∈ wsM := List.mem_of_getElem? (i := 123) rfl
theorem wM_124 : (.code yXM_conditionsNow cXM_conditionsNow 4 (some .int) : Cond) ∈ wsM := List.mem_of_getElem? (i := 124) rfl
theorem wM_125 : (.code yXM_commands cXM_commands 5 (some .int) : Cond) ∈ wsM := List.mem_of_getElem? (i := 125) rfl
theorem wM_126 : (.code yXM_guarded cXM_guarded 4 (some .int) : Cond) ∈ wsM := List.mem_of_getElem? (i := 126) rfl
theorem wM_127 : (.code yXM_phase cXM_phase 1 (some .int) : Cond) ∈ wsM := List.mem_of_getElem? (i := 127) rfl
theorem wM_128 : (.code yXM_alarms cXM_alarms 1 (some .int) : Cond) ∈ wsM := List.mem_of_getElem? (i := 128) rfl
theorem wM_129 : (.code yXM_conditions cXM_conditions 1 (some .int) : Cond) ∈ wsM := List.mem_of_getElem? (i := 129) rfl
theorem wM_130 : (.code yXM_outputs cXM_outputs 1 (some .int) : Cond) ∈ wsM := List.mem_of_getElem? (i := 130) rfl
theorem wM_131 : (.code yXM_effective cXM_effective 1 (some .int) : Cond) ∈ wsM := List.mem_of_getElem? (i := 131) rfl
theorem wM_132 : (.code yXM_accounted cXM_accounted 1 (some .int) : Cond) ∈ wsM := List.mem_of_getElem? (i := 132) rfl
theorem wM_133 : (.code yXM_strokes cXM_strokes 1 (some .int) : Cond) ∈ wsM := List.mem_of_getElem? (i := 133) rfl
theorem wM_134 : (.code yXM_trips cXM_trips 1 (some .int) : Cond) ∈ wsM := List.mem_of_getElem? (i := 134) rfl
theorem wM_135 : (.code yXM_counted cXM_counted 1 (some .int) : Cond) ∈ wsM := List.mem_of_getElem? (i := 135) rfl
theorem wM_136 : (.code yXM_steady cXM_steady 1 (some .int) : Cond) ∈ wsM := List.mem_of_getElem? (i := 136) rfl
set_option maxRecDepth 20000 in
theorem wsM_gd : (wsM ++ wsXM0).all goodWord = true := by decide +kernel
set_option maxRecDepth 20000 in
theorem wsM_in : GoodIn lw_tbl wsM := goodIn_p _ [39, 276, 339, 342, 345, 349, 353, 357, 361, 365, 369, 373, 377, 381, 385, 389, 393, 397, 401, 405, 409, 413, 418, 425, 429, 433, 437, 441, 445, 449, 453, 457, 461, 465] (by decide +kernel) (by decide +kernel)
set_option maxRecDepth 20000 in
theorem wsMf_in : ∀ w ∈ wsXM0, w ∈ lw_tbl := by decide +kernel
def wsXM_init : List Cond := .code yXM_init cXM_init 2 none :: (wsM ++ wsXM0)
def wsXM_set : List Cond := .code yXM_set cXM_set 3 (some .boolean) :: (wsM ++ wsXM0)
def wsXM_least : List Cond := .code yXM_least cXM_least 1 (some .int) :: (wsM ++ wsXM0)
def wsXM_most : List Cond := .code yXM_most cXM_most 2 (some .int) :: (wsM ++ wsXM0)
def wsXM_parameter : List Cond := .code yXM_parameter cXM_parameter 2 (some .int) :: (wsM ++ wsXM0)
def wsXM_sense : List Cond := .code yXM_sense cXM_sense 3 (some .boolean) :: (wsM ++ wsXM0)
def wsXM_conditioned : List Cond := .code yXM_conditioned cXM_conditioned 2 (some .int) :: (wsM ++ wsXM0)
def wsXM_faulty : List Cond := .code yXM_faulty cXM_faulty 2 (some .boolean) :: (wsM ++ wsXM0)
def wsXM_next : List Cond := .code yXM_next cXM_next 2 (some .int) :: (wsM ++ wsXM0)
def wsXM_consistent : List Cond := .code yXM_consistent cXM_consistent 1 (some .boolean) :: (wsM ++ wsXM0)
def wsXM_enter : List Cond := .code yXM_enter cXM_enter 2 none :: (wsM ++ wsXM0)
def wsXM_acknowledge : List Cond := .code yXM_acknowledge cXM_acknowledge 1 (some .int) :: (wsM ++ wsXM0)
def wsXM_substitute : List Cond := .code yXM_substitute cXM_substitute 2 (some .boolean) :: (wsM ++ wsXM0)
def wsXM_tick : List Cond := .code yXM_tick cXM_tick 4 (some .int) :: (wsM ++ wsXM0)
def wsXM_one : List Cond := .code yXM_one cXM_one 4 (some .boolean) :: (wsM ++ wsXM0)
def wsXM_condition : List Cond := .code yXM_condition cXM_condition 2 none :: (wsM ++ wsXM0)
def wsXM_isPlausible : List Cond := .code yXM_isPlausible cXM_isPlausible 4 (some .boolean) :: (wsM ++ wsXM0)
def wsXM_onPatient : List Cond := .code yXM_onPatient cXM_onPatient 1 (some .boolean) :: (wsM ++ wsXM0)
def wsXM_outside : List Cond := .code yXM_outside cXM_outside 4 (some .boolean) :: (wsM ++ wsXM0)
def wsXM_off : List Cond := .code yXM_off cXM_off 3 (some .boolean) :: (wsM ++ wsXM0)
def wsXM_conditionsNow : List Cond := .code yXM_conditionsNow cXM_conditionsNow 4 (some .int) :: (wsM ++ wsXM0)
def wsXM_commands : List Cond := .code yXM_commands cXM_commands 5 (some .int) :: (wsM ++ wsXM0)
def wsXM_guarded : List Cond := .code yXM_guarded cXM_guarded 4 (some .int) :: (wsM ++ wsXM0)
def wsXM_phase : List Cond := .code yXM_phase cXM_phase 1 (some .int) :: (wsM ++ wsXM0)
def wsXM_alarms : List Cond := .code yXM_alarms cXM_alarms 1 (some .int) :: (wsM ++ wsXM0)
def wsXM_conditions : List Cond := .code yXM_conditions cXM_conditions 1 (some .int) :: (wsM ++ wsXM0)
def wsXM_outputs : List Cond := .code yXM_outputs cXM_outputs 1 (some .int) :: (wsM ++ wsXM0)
def wsXM_effective : List Cond := .code yXM_effective cXM_effective 1 (some .int) :: (wsM ++ wsXM0)
def wsXM_accounted : List Cond := .code yXM_accounted cXM_accounted 1 (some .int) :: (wsM ++ wsXM0)
def wsXM_strokes : List Cond := .code yXM_strokes cXM_strokes 1 (some .int) :: (wsM ++ wsXM0)
def wsXM_trips : List Cond := .code yXM_trips cXM_trips 1 (some .int) :: (wsM ++ wsXM0)
def wsXM_counted : List Cond := .code yXM_counted cXM_counted 1 (some .int) :: (wsM ++ wsXM0)
def wsXM_steady : List Cond := .code yXM_steady cXM_steady 1 (some .int) :: (wsM ++ wsXM0)
theorem gM_of {c c1 : Cond} {l : List Cond} (h1 : c1 ∈ wsM) (hl : ∀ w ∈ l, w ∈ wsM) : GoodIn (c :: (wsM ++ wsXM0)) (l ++ c1 :: (wsM ++ wsXM0)) := by
  have hg := List.all_eq_true.mp wsM_gd
  intro w hw
  rcases List.mem_append.mp hw with h | h
  · exact ⟨List.mem_cons_of_mem _ (List.mem_append_left _ (hl w h)), good_of_word (hg w (List.mem_append_left _ (hl w h)))⟩
  · rcases List.mem_cons.mp h with rfl | h
    · exact ⟨List.mem_cons_of_mem _ (List.mem_append_left _ h1), good_of_word (hg w (List.mem_append_left _ h1))⟩
    · exact ⟨List.mem_cons_of_mem _ h, good_of_word (hg w h)⟩
theorem gLM_of {c1 : Cond} {l : List Cond} (h1 : c1 ∈ wsM) (hl : GoodIn lw_tbl l) : GoodIn lw_tbl (l ++ c1 :: (wsM ++ wsXM0)) := by
  have hg := List.all_eq_true.mp wsM_gd
  intro w hw
  rcases List.mem_append.mp hw with h | h
  · exact hl w h
  · rcases List.mem_cons.mp h with rfl | h
    · exact wsM_in w h1
    · rcases List.mem_append.mp h with h2 | h2
      · exact wsM_in w h2
      · exact ⟨wsMf_in w h2, good_of_word (hg w (List.mem_append_right _ h2))⟩
theorem gXM_set_XM_least : GoodIn wsXM_set (va_wsS RXM 29 yXM_least wsXM_least) := gM_of (l := [.methodLink RXM 29 yXM_least, .static yXM_least, .initialized RXM]) wM_106 (List.forall_mem_cons.mpr ⟨wM_26, List.forall_mem_cons.mpr ⟨wM_27, List.forall_mem_cons.mpr ⟨wM_0, fun _ h => absurd h List.not_mem_nil⟩⟩⟩)
theorem gXM_set_XM_most : GoodIn wsXM_set (va_wsS RXM 33 yXM_most wsXM_most) := gM_of (l := [.methodLink RXM 33 yXM_most, .static yXM_most, .initialized RXM]) wM_107 (List.forall_mem_cons.mpr ⟨wM_28, List.forall_mem_cons.mpr ⟨wM_29, List.forall_mem_cons.mpr ⟨wM_0, fun _ h => absurd h List.not_mem_nil⟩⟩⟩)
theorem gXM_next_XM_consistent : GoodIn wsXM_next (wsV RXM 51 RXM yXM_consistent wsXM_consistent) := gM_of (l := [.methodLink RXM 51 yXM_consistent, .instanceMethod yXM_consistent, .selects RXM yXM_consistent yXM_consistent, .initialized RXM]) wM_113 (List.forall_mem_cons.mpr ⟨wM_40, List.forall_mem_cons.mpr ⟨wM_41, List.forall_mem_cons.mpr ⟨wM_92, List.forall_mem_cons.mpr ⟨wM_0, fun _ h => absurd h List.not_mem_nil⟩⟩⟩⟩)
theorem gXM_next_XM_enter : GoodIn wsXM_next (wsV RXM 61 RXM yXM_enter wsXM_enter) := gM_of (l := [.methodLink RXM 61 yXM_enter, .instanceMethod yXM_enter, .selects RXM yXM_enter yXM_enter, .initialized RXM]) wM_114 (List.forall_mem_cons.mpr ⟨wM_42, List.forall_mem_cons.mpr ⟨wM_43, List.forall_mem_cons.mpr ⟨wM_93, List.forall_mem_cons.mpr ⟨wM_0, fun _ h => absurd h List.not_mem_nil⟩⟩⟩⟩)
theorem gXM_condition_XM_isPlausible : GoodIn wsXM_condition (wsV RXM 68 RXM yXM_isPlausible wsXM_isPlausible) := gM_of (l := [.methodLink RXM 68 yXM_isPlausible, .instanceMethod yXM_isPlausible, .selects RXM yXM_isPlausible yXM_isPlausible, .initialized RXM]) wM_120 (List.forall_mem_cons.mpr ⟨wM_54, List.forall_mem_cons.mpr ⟨wM_55, List.forall_mem_cons.mpr ⟨wM_96, List.forall_mem_cons.mpr ⟨wM_0, fun _ h => absurd h List.not_mem_nil⟩⟩⟩⟩)
theorem gXM_condition_XM_onPatient : GoodIn wsXM_condition (wsV RXM 72 RXM yXM_onPatient wsXM_onPatient) := gM_of (l := [.methodLink RXM 72 yXM_onPatient, .instanceMethod yXM_onPatient, .selects RXM yXM_onPatient yXM_onPatient, .initialized RXM]) wM_121 (List.forall_mem_cons.mpr ⟨wM_56, List.forall_mem_cons.mpr ⟨wM_57, List.forall_mem_cons.mpr ⟨wM_97, List.forall_mem_cons.mpr ⟨wM_0, fun _ h => absurd h List.not_mem_nil⟩⟩⟩⟩)
theorem gXM_condition_XM_outside : GoodIn wsXM_condition (wsV RXM 75 RXM yXM_outside wsXM_outside) := gM_of (l := [.methodLink RXM 75 yXM_outside, .instanceMethod yXM_outside, .selects RXM yXM_outside yXM_outside, .initialized RXM]) wM_122 (List.forall_mem_cons.mpr ⟨wM_58, List.forall_mem_cons.mpr ⟨wM_59, List.forall_mem_cons.mpr ⟨wM_98, List.forall_mem_cons.mpr ⟨wM_0, fun _ h => absurd h List.not_mem_nil⟩⟩⟩⟩)
theorem gXM_condition_XM_off : GoodIn wsXM_condition (wsV RXM 85 RXM yXM_off wsXM_off) := gM_of (l := [.methodLink RXM 85 yXM_off, .instanceMethod yXM_off, .selects RXM yXM_off yXM_off, .initialized RXM]) wM_123 (List.forall_mem_cons.mpr ⟨wM_60, List.forall_mem_cons.mpr ⟨wM_61, List.forall_mem_cons.mpr ⟨wM_99, List.forall_mem_cons.mpr ⟨wM_0, fun _ h => absurd h List.not_mem_nil⟩⟩⟩⟩)
theorem gXM_conditionsNow_XM_onPatient : GoodIn wsXM_conditionsNow (wsV RXM 72 RXM yXM_onPatient wsXM_onPatient) := gM_of (l := [.methodLink RXM 72 yXM_onPatient, .instanceMethod yXM_onPatient, .selects RXM yXM_onPatient yXM_onPatient, .initialized RXM]) wM_121 (List.forall_mem_cons.mpr ⟨wM_56, List.forall_mem_cons.mpr ⟨wM_57, List.forall_mem_cons.mpr ⟨wM_97, List.forall_mem_cons.mpr ⟨wM_0, fun _ h => absurd h List.not_mem_nil⟩⟩⟩⟩)
theorem gXM_conditionsNow_XM_faulty : GoodIn wsXM_conditionsNow (wsV RXM 91 RXM yXM_faulty wsXM_faulty) := gM_of (l := [.methodLink RXM 91 yXM_faulty, .instanceMethod yXM_faulty, .selects RXM yXM_faulty yXM_faulty, .initialized RXM]) wM_111 (List.forall_mem_cons.mpr ⟨wM_64, List.forall_mem_cons.mpr ⟨wM_36, List.forall_mem_cons.mpr ⟨wM_37, List.forall_mem_cons.mpr ⟨wM_0, fun _ h => absurd h List.not_mem_nil⟩⟩⟩⟩)
theorem gXM_guarded_XM_onPatient : GoodIn wsXM_guarded (wsV RXM 72 RXM yXM_onPatient wsXM_onPatient) := gM_of (l := [.methodLink RXM 72 yXM_onPatient, .instanceMethod yXM_onPatient, .selects RXM yXM_onPatient yXM_onPatient, .initialized RXM]) wM_121 (List.forall_mem_cons.mpr ⟨wM_56, List.forall_mem_cons.mpr ⟨wM_57, List.forall_mem_cons.mpr ⟨wM_97, List.forall_mem_cons.mpr ⟨wM_0, fun _ h => absurd h List.not_mem_nil⟩⟩⟩⟩)
theorem gXM_guarded_XM_outside : GoodIn wsXM_guarded (wsV RXM 75 RXM yXM_outside wsXM_outside) := gM_of (l := [.methodLink RXM 75 yXM_outside, .instanceMethod yXM_outside, .selects RXM yXM_outside yXM_outside, .initialized RXM]) wM_122 (List.forall_mem_cons.mpr ⟨wM_58, List.forall_mem_cons.mpr ⟨wM_59, List.forall_mem_cons.mpr ⟨wM_98, List.forall_mem_cons.mpr ⟨wM_0, fun _ h => absurd h List.not_mem_nil⟩⟩⟩⟩)
theorem gXM_one_XM_condition : GoodIn wsXM_one (wsV RXM 103 RXM yXM_condition wsXM_condition) := gM_of (l := [.methodLink RXM 103 yXM_condition, .instanceMethod yXM_condition, .selects RXM yXM_condition yXM_condition, .initialized RXM]) wM_119 (List.forall_mem_cons.mpr ⟨wM_52, List.forall_mem_cons.mpr ⟨wM_53, List.forall_mem_cons.mpr ⟨wM_95, List.forall_mem_cons.mpr ⟨wM_0, fun _ h => absurd h List.not_mem_nil⟩⟩⟩⟩)
theorem gXM_one_XM_conditionsNow : GoodIn wsXM_one (wsV RXM 106 RXM yXM_conditionsNow wsXM_conditionsNow) := gM_of (l := [.methodLink RXM 106 yXM_conditionsNow, .instanceMethod yXM_conditionsNow, .selects RXM yXM_conditionsNow yXM_conditionsNow, .initialized RXM]) wM_124 (List.forall_mem_cons.mpr ⟨wM_62, List.forall_mem_cons.mpr ⟨wM_63, List.forall_mem_cons.mpr ⟨wM_100, List.forall_mem_cons.mpr ⟨wM_0, fun _ h => absurd h List.not_mem_nil⟩⟩⟩⟩)
theorem gXM_one_XM_commands : GoodIn wsXM_one (wsV RXM 110 RXM yXM_commands wsXM_commands) := gM_of (l := [.methodLink RXM 110 yXM_commands, .instanceMethod yXM_commands, .selects RXM yXM_commands yXM_commands, .initialized RXM]) wM_125 (List.forall_mem_cons.mpr ⟨wM_65, List.forall_mem_cons.mpr ⟨wM_66, List.forall_mem_cons.mpr ⟨wM_101, List.forall_mem_cons.mpr ⟨wM_0, fun _ h => absurd h List.not_mem_nil⟩⟩⟩⟩)
theorem gXM_one_XM_guarded : GoodIn wsXM_one (wsV RXM 113 RXM yXM_guarded wsXM_guarded) := gM_of (l := [.methodLink RXM 113 yXM_guarded, .instanceMethod yXM_guarded, .selects RXM yXM_guarded yXM_guarded, .initialized RXM]) wM_126 (List.forall_mem_cons.mpr ⟨wM_70, List.forall_mem_cons.mpr ⟨wM_71, List.forall_mem_cons.mpr ⟨wM_102, List.forall_mem_cons.mpr ⟨wM_0, fun _ h => absurd h List.not_mem_nil⟩⟩⟩⟩)
theorem gXM_one_XM_enter : GoodIn wsXM_one (wsV RXM 61 RXM yXM_enter wsXM_enter) := gM_of (l := [.methodLink RXM 61 yXM_enter, .instanceMethod yXM_enter, .selects RXM yXM_enter yXM_enter, .initialized RXM]) wM_114 (List.forall_mem_cons.mpr ⟨wM_42, List.forall_mem_cons.mpr ⟨wM_43, List.forall_mem_cons.mpr ⟨wM_93, List.forall_mem_cons.mpr ⟨wM_0, fun _ h => absurd h List.not_mem_nil⟩⟩⟩⟩)
theorem gXM_tick_XM_one : GoodIn wsXM_tick (wsV RXM 119 RXM yXM_one wsXM_one) := gM_of (l := [.methodLink RXM 119 yXM_one, .instanceMethod yXM_one, .selects RXM yXM_one yXM_one, .initialized RXM]) wM_118 (List.forall_mem_cons.mpr ⟨wM_50, List.forall_mem_cons.mpr ⟨wM_51, List.forall_mem_cons.mpr ⟨wM_94, List.forall_mem_cons.mpr ⟨wM_0, fun _ h => absurd h List.not_mem_nil⟩⟩⟩⟩)
