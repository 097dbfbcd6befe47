section
def lw_okq (q : MethodName × Nat) : Prop := (q.1.cls ≠ "java/lang/invoke/MethodHandle" ∧ q.1.cls ≠ "java/lang/invoke/VarHandle") ∧ Cond.instantiable q.1.cls q.2 ∈ tables_1 ∧ Cond.privateMethod q.1 ∈ tables_1 ∧ Cond.instanceMethod q.1 ∈ tables_1
theorem lw_p0 : lw_okq (⟨"BloodCircuitChannels", "mayLeavePhase", "()Z"⟩, 18) := ⟨⟨by decide +kernel, by decide +kernel⟩, List.mem_of_getElem? (i := 5) (by decide +kernel), List.mem_of_getElem? (i := 117) (by decide +kernel), List.mem_of_getElem? (i := 118) (by decide +kernel)⟩
theorem lw_p1 : lw_okq (⟨"BloodCircuitChannels", "areConsistent", "()Z"⟩, 18) := ⟨⟨by decide +kernel, by decide +kernel⟩, List.mem_of_getElem? (i := 5) (by decide +kernel), List.mem_of_getElem? (i := 121) (by decide +kernel), List.mem_of_getElem? (i := 122) (by decide +kernel)⟩
theorem lw_p2 : lw_okq (⟨"BloodCircuitChannels", "beginPhase", "(I)V"⟩, 18) := ⟨⟨by decide +kernel, by decide +kernel⟩, List.mem_of_getElem? (i := 5) (by decide +kernel), List.mem_of_getElem? (i := 125) (by decide +kernel), List.mem_of_getElem? (i := 126) (by decide +kernel)⟩
theorem lw_p3 : lw_okq (⟨"BloodCircuitChannels", "makeTick", "()Z"⟩, 18) := ⟨⟨by decide +kernel, by decide +kernel⟩, List.mem_of_getElem? (i := 5) (by decide +kernel), List.mem_of_getElem? (i := 141) (by decide +kernel), List.mem_of_getElem? (i := 142) (by decide +kernel)⟩
theorem lw_p4 : lw_okq (⟨"BloodCircuitChannels", "conditionSensors", "()V"⟩, 18) := ⟨⟨by decide +kernel, by decide +kernel⟩, List.mem_of_getElem? (i := 5) (by decide +kernel), List.mem_of_getElem? (i := 145) (by decide +kernel), List.mem_of_getElem? (i := 146) (by decide +kernel)⟩
theorem lw_p5 : lw_okq (⟨"BloodCircuitChannels", "countTicksInARow", "()V"⟩, 18) := ⟨⟨by decide +kernel, by decide +kernel⟩, List.mem_of_getElem? (i := 5) (by decide +kernel), List.mem_of_getElem? (i := 153) (by decide +kernel), List.mem_of_getElem? (i := 154) (by decide +kernel)⟩
theorem lw_p6 : lw_okq (⟨"BloodCircuitChannels", "isConnected", "()Z"⟩, 18) := ⟨⟨by decide +kernel, by decide +kernel⟩, List.mem_of_getElem? (i := 5) (by decide +kernel), List.mem_of_getElem? (i := 157) (by decide +kernel), List.mem_of_getElem? (i := 158) (by decide +kernel)⟩
theorem lw_p7 : lw_okq (⟨"BloodCircuitChannels", "isFluidOff", "()Z"⟩, 18) := ⟨⟨by decide +kernel, by decide +kernel⟩, List.mem_of_getElem? (i := 5) (by decide +kernel), List.mem_of_getElem? (i := 161) (by decide +kernel), List.mem_of_getElem? (i := 162) (by decide +kernel)⟩
theorem lw_p8 : lw_okq (⟨"BloodCircuitChannels", "conditionsNow", "()I"⟩, 18) := ⟨⟨by decide +kernel, by decide +kernel⟩, List.mem_of_getElem? (i := 5) (by decide +kernel), List.mem_of_getElem? (i := 168) (by decide +kernel), List.mem_of_getElem? (i := 169) (by decide +kernel)⟩
theorem lw_p9 : lw_okq (⟨"BloodCircuitChannels", "isSomeSensorFaulty", "()Z"⟩, 18) := ⟨⟨by decide +kernel, by decide +kernel⟩, List.mem_of_getElem? (i := 5) (by decide +kernel), List.mem_of_getElem? (i := 172) (by decide +kernel), List.mem_of_getElem? (i := 173) (by decide +kernel)⟩
theorem lw_p10 : lw_okq (⟨"BloodCircuitChannels", "commandsOfControl", "()I"⟩, 18) := ⟨⟨by decide +kernel, by decide +kernel⟩, List.mem_of_getElem? (i := 5) (by decide +kernel), List.mem_of_getElem? (i := 176) (by decide +kernel), List.mem_of_getElem? (i := 177) (by decide +kernel)⟩
theorem lw_p11 : lw_okq (⟨"BloodCircuitChannels", "isStrokeWanted", "()Z"⟩, 18) := ⟨⟨by decide +kernel, by decide +kernel⟩, List.mem_of_getElem? (i := 5) (by decide +kernel), List.mem_of_getElem? (i := 180) (by decide +kernel), List.mem_of_getElem? (i := 181) (by decide +kernel)⟩
theorem lw_p12 : lw_okq (⟨"BloodCircuitChannels", "ticksOfTreatment", "()I"⟩, 18) := ⟨⟨by decide +kernel, by decide +kernel⟩, List.mem_of_getElem? (i := 5) (by decide +kernel), List.mem_of_getElem? (i := 185) (by decide +kernel), List.mem_of_getElem? (i := 186) (by decide +kernel)⟩
theorem lw_p13 : lw_okq (⟨"BloodCircuitChannels", "afterProtection", "(I)I"⟩, 18) := ⟨⟨by decide +kernel, by decide +kernel⟩, List.mem_of_getElem? (i := 5) (by decide +kernel), List.mem_of_getElem? (i := 189) (by decide +kernel), List.mem_of_getElem? (i := 190) (by decide +kernel)⟩
theorem lw_p14 : lw_okq (⟨"BloodCircuitChannels", "isRawDangerous", "()Z"⟩, 18) := ⟨⟨by decide +kernel, by decide +kernel⟩, List.mem_of_getElem? (i := 5) (by decide +kernel), List.mem_of_getElem? (i := 193) (by decide +kernel), List.mem_of_getElem? (i := 194) (by decide +kernel)⟩
theorem lw_p15 : lw_okq (⟨"BloodCircuitChannels", "isStrokeTooMuch", "()Z"⟩, 18) := ⟨⟨by decide +kernel, by decide +kernel⟩, List.mem_of_getElem? (i := 5) (by decide +kernel), List.mem_of_getElem? (i := 197) (by decide +kernel), List.mem_of_getElem? (i := 198) (by decide +kernel)⟩
def lw_privs_1 : List (MethodName × Nat) := [(⟨"BloodCircuitChannels", "mayLeavePhase", "()Z"⟩, 18), (⟨"BloodCircuitChannels", "areConsistent", "()Z"⟩, 18), (⟨"BloodCircuitChannels", "beginPhase", "(I)V"⟩, 18), (⟨"BloodCircuitChannels", "makeTick", "()Z"⟩, 18), (⟨"BloodCircuitChannels", "conditionSensors", "()V"⟩, 18), (⟨"BloodCircuitChannels", "countTicksInARow", "()V"⟩, 18), (⟨"BloodCircuitChannels", "isConnected", "()Z"⟩, 18), (⟨"BloodCircuitChannels", "isFluidOff", "()Z"⟩, 18), (⟨"BloodCircuitChannels", "conditionsNow", "()I"⟩, 18), (⟨"BloodCircuitChannels", "isSomeSensorFaulty", "()Z"⟩, 18), (⟨"BloodCircuitChannels", "commandsOfControl", "()I"⟩, 18), (⟨"BloodCircuitChannels", "isStrokeWanted", "()Z"⟩, 18), (⟨"BloodCircuitChannels", "ticksOfTreatment", "()I"⟩, 18), (⟨"BloodCircuitChannels", "afterProtection", "(I)I"⟩, 18), (⟨"BloodCircuitChannels", "isRawDangerous", "()Z"⟩, 18), (⟨"BloodCircuitChannels", "isStrokeTooMuch", "()Z"⟩, 18)]
theorem lw_r1 : ∀ q ∈ lw_privs_1, lw_okq q := List.forall_mem_cons.mpr ⟨lw_p0, List.forall_mem_cons.mpr ⟨lw_p1, List.forall_mem_cons.mpr ⟨lw_p2, List.forall_mem_cons.mpr ⟨lw_p3, List.forall_mem_cons.mpr ⟨lw_p4, List.forall_mem_cons.mpr ⟨lw_p5, List.forall_mem_cons.mpr ⟨lw_p6, List.forall_mem_cons.mpr ⟨lw_p7, List.forall_mem_cons.mpr ⟨lw_p8, List.forall_mem_cons.mpr ⟨lw_p9, List.forall_mem_cons.mpr ⟨lw_p10, List.forall_mem_cons.mpr ⟨lw_p11, List.forall_mem_cons.mpr ⟨lw_p12, List.forall_mem_cons.mpr ⟨lw_p13, List.forall_mem_cons.mpr ⟨lw_p14, List.forall_mem_cons.mpr ⟨lw_p15, fun _ h => absurd h List.not_mem_nil⟩⟩⟩⟩⟩⟩⟩⟩⟩⟩⟩⟩⟩⟩⟩⟩
theorem lw_p16 : lw_okq (⟨"BloodCircuitChannels", "countTowardsEnd", "()V"⟩, 18) := ⟨⟨by decide +kernel, by decide +kernel⟩, List.mem_of_getElem? (i := 5) (by decide +kernel), List.mem_of_getElem? (i := 201) (by decide +kernel), List.mem_of_getElem? (i := 202) (by decide +kernel)⟩
theorem lw_p17 : lw_okq (⟨"BloodCircuitChannelsModel", "consistent", "()Z"⟩, 19) := ⟨⟨by decide +kernel, by decide +kernel⟩, List.mem_of_getElem? (i := 245) (by decide +kernel), List.mem_of_getElem? (i := 339) (by decide +kernel), List.mem_of_getElem? (i := 340) (by decide +kernel)⟩
theorem lw_p18 : lw_okq (⟨"BloodCircuitChannelsModel", "enter", "(I)V"⟩, 19) := ⟨⟨by decide +kernel, by decide +kernel⟩, List.mem_of_getElem? (i := 245) (by decide +kernel), List.mem_of_getElem? (i := 343) (by decide +kernel), List.mem_of_getElem? (i := 344) (by decide +kernel)⟩
theorem lw_p19 : lw_okq (⟨"BloodCircuitChannelsModel", "one", "()Z"⟩, 19) := ⟨⟨by decide +kernel, by decide +kernel⟩, List.mem_of_getElem? (i := 245) (by decide +kernel), List.mem_of_getElem? (i := 359) (by decide +kernel), List.mem_of_getElem? (i := 360) (by decide +kernel)⟩
theorem lw_p20 : lw_okq (⟨"BloodCircuitChannelsModel", "condition", "()V"⟩, 19) := ⟨⟨by decide +kernel, by decide +kernel⟩, List.mem_of_getElem? (i := 245) (by decide +kernel), List.mem_of_getElem? (i := 363) (by decide +kernel), List.mem_of_getElem? (i := 364) (by decide +kernel)⟩
theorem lw_p21 : lw_okq (⟨"BloodCircuitChannelsModel", "isPlausible", "(I)Z"⟩, 19) := ⟨⟨by decide +kernel, by decide +kernel⟩, List.mem_of_getElem? (i := 245) (by decide +kernel), List.mem_of_getElem? (i := 367) (by decide +kernel), List.mem_of_getElem? (i := 368) (by decide +kernel)⟩
theorem lw_p22 : lw_okq (⟨"BloodCircuitChannelsModel", "onPatient", "()Z"⟩, 19) := ⟨⟨by decide +kernel, by decide +kernel⟩, List.mem_of_getElem? (i := 245) (by decide +kernel), List.mem_of_getElem? (i := 371) (by decide +kernel), List.mem_of_getElem? (i := 372) (by decide +kernel)⟩
theorem lw_p23 : lw_okq (⟨"BloodCircuitChannelsModel", "outside", "(III)Z"⟩, 19) := ⟨⟨by decide +kernel, by decide +kernel⟩, List.mem_of_getElem? (i := 245) (by decide +kernel), List.mem_of_getElem? (i := 375) (by decide +kernel), List.mem_of_getElem? (i := 376) (by decide +kernel)⟩
theorem lw_p24 : lw_okq (⟨"BloodCircuitChannelsModel", "off", "()Z"⟩, 19) := ⟨⟨by decide +kernel, by decide +kernel⟩, List.mem_of_getElem? (i := 245) (by decide +kernel), List.mem_of_getElem? (i := 379) (by decide +kernel), List.mem_of_getElem? (i := 380) (by decide +kernel)⟩
theorem lw_p25 : lw_okq (⟨"BloodCircuitChannelsModel", "conditionsNow", "()I"⟩, 19) := ⟨⟨by decide +kernel, by decide +kernel⟩, List.mem_of_getElem? (i := 245) (by decide +kernel), List.mem_of_getElem? (i := 383) (by decide +kernel), List.mem_of_getElem? (i := 384) (by decide +kernel)⟩
theorem lw_p26 : lw_okq (⟨"BloodCircuitChannelsModel", "commands", "()I"⟩, 19) := ⟨⟨by decide +kernel, by decide +kernel⟩, List.mem_of_getElem? (i := 245) (by decide +kernel), List.mem_of_getElem? (i := 388) (by decide +kernel), List.mem_of_getElem? (i := 389) (by decide +kernel)⟩
theorem lw_p27 : lw_okq (⟨"BloodCircuitChannelsModel", "guarded", "(I)I"⟩, 19) := ⟨⟨by decide +kernel, by decide +kernel⟩, List.mem_of_getElem? (i := 245) (by decide +kernel), List.mem_of_getElem? (i := 395) (by decide +kernel), List.mem_of_getElem? (i := 396) (by decide +kernel)⟩
def lw_privs_2 : List (MethodName × Nat) := [(⟨"BloodCircuitChannels", "countTowardsEnd", "()V"⟩, 18), (⟨"BloodCircuitChannelsModel", "consistent", "()Z"⟩, 19), (⟨"BloodCircuitChannelsModel", "enter", "(I)V"⟩, 19), (⟨"BloodCircuitChannelsModel", "one", "()Z"⟩, 19), (⟨"BloodCircuitChannelsModel", "condition", "()V"⟩, 19), (⟨"BloodCircuitChannelsModel", "isPlausible", "(I)Z"⟩, 19), (⟨"BloodCircuitChannelsModel", "onPatient", "()Z"⟩, 19), (⟨"BloodCircuitChannelsModel", "outside", "(III)Z"⟩, 19), (⟨"BloodCircuitChannelsModel", "off", "()Z"⟩, 19), (⟨"BloodCircuitChannelsModel", "conditionsNow", "()I"⟩, 19), (⟨"BloodCircuitChannelsModel", "commands", "()I"⟩, 19), (⟨"BloodCircuitChannelsModel", "guarded", "(I)I"⟩, 19)]
theorem lw_r2 : ∀ q ∈ lw_privs_2, lw_okq q := List.forall_mem_cons.mpr ⟨lw_p16, List.forall_mem_cons.mpr ⟨lw_p17, List.forall_mem_cons.mpr ⟨lw_p18, List.forall_mem_cons.mpr ⟨lw_p19, List.forall_mem_cons.mpr ⟨lw_p20, List.forall_mem_cons.mpr ⟨lw_p21, List.forall_mem_cons.mpr ⟨lw_p22, List.forall_mem_cons.mpr ⟨lw_p23, List.forall_mem_cons.mpr ⟨lw_p24, List.forall_mem_cons.mpr ⟨lw_p25, List.forall_mem_cons.mpr ⟨lw_p26, List.forall_mem_cons.mpr ⟨lw_p27, fun _ h => absurd h List.not_mem_nil⟩⟩⟩⟩⟩⟩⟩⟩⟩⟩⟩⟩
def lw_privs : List (MethodName × Nat) := lw_privs_1 ++ (lw_privs_2)
def lw_tbl : List Cond := k2_sels lw_privs ++ tables_1
theorem lw_privs_ok : ∀ q ∈ lw_privs, lw_okq q := by
  show ∀ q ∈ lw_privs_1 ++ (lw_privs_2), lw_okq q
  exact List.forall_mem_append.mpr ⟨lw_r1, lw_r2⟩
end
section
/-! ===== BEGIN words of one list among another's, by their places ===== -/
theorem goodIn_r {big : List Cond} (ws : List Cond) (ps : List Nat) (hp : ws = ps.filterMap (fun i => big[i]?)) (h : ws.all goodWord = true) : GoodIn big ws := by
  intro w hw
  have h1 := List.all_eq_true.mp h w hw
  rw [hp] at hw
  obtain ⟨i, -, hi⟩ := List.mem_filterMap.mp hw
  have hm : w ∈ big := by first | exact List.mem_of_getElem? hi | exact List.getElem?_mem hi
  exact ⟨hm, good_of_word h1⟩
theorem goodIn_app {big a b : List Cond} (ha : GoodIn big a) (hb : GoodIn big b) : GoodIn big (a ++ b) := fun w h => (List.mem_append.mp h).elim (ha w) (hb w)
theorem goodIn_ca {big a b : List Cond} {c : Cond} (ha : GoodIn big (c :: a)) (hb : GoodIn big b) : GoodIn big (c :: (a ++ b)) := fun w h => (List.mem_cons.mp h).elim (fun e => ha w (List.mem_cons.mpr (Or.inl e))) (fun h => (List.mem_append.mp h).elim (fun h => ha w (List.mem_cons.mpr (Or.inr h))) (hb w))
theorem goodIn_sub {big ws : List Cond} (hm : ∀ w ∈ ws, w ∈ big) (h : ws.all goodWord = true) : GoodIn big ws := fun w hw => ⟨hm w hw, good_of_word (List.all_eq_true.mp h w hw)⟩
/-! ===== END ===== -/

/-! ===== BEGIN printed: names, fields, word lists, decode rows ===== -/
def RX0 : String := "BloodCircuitChannels"
def TX0 : u_T := fun k => match k with
  | 0 => ("BloodCircuitChannels", "parameters", "[I", true)
  | 1 => ("BloodCircuitChannels", "raw", "[I", true)
  | 2 => ("BloodCircuitChannels", "conditioned", "[I", true)
  | 3 => ("BloodCircuitChannels", "implausibleTicks", "[I", true)
  | 4 => ("BloodCircuitChannels", "phase", "I", false)
  | 5 => ("BloodCircuitChannels", "alarms", "I", false)
  | 6 => ("BloodCircuitChannels", "conditions", "I", false)
  | 7 => ("BloodCircuitChannels", "outputs", "I", false)
  | 8 => ("BloodCircuitChannels", "substituted", "I", false)
  | 9 => ("BloodCircuitChannels", "effective", "I", false)
  | 10 => ("BloodCircuitChannels", "accounted", "I", false)
  | 11 => ("BloodCircuitChannels", "strokes", "I", false)
  | 12 => ("BloodCircuitChannels", "trips", "I", false)
  | 13 => ("BloodCircuitChannels", "counted", "I", false)
  | 14 => ("BloodCircuitChannels", "steadyTicks", "I", false)
  | 15 => ("BloodCircuitChannels", "fluidOffTicks", "I", false)
  | 16 => ("BloodCircuitChannels", "arterialOutTicks", "I", false)
  | _ => ("BloodCircuitChannels", "venousOutTicks", "I", false)
def tyX0 : Nat → FieldType := fun k => match k with
  | 0 => .array .int
  | 1 => .array .int
  | 2 => .array .int
  | 3 => .array .int
  | 4 => .int
  | 5 => .int
  | 6 => .int
  | 7 => .int
  | 8 => .int
  | 9 => .int
  | 10 => .int
  | 11 => .int
  | 12 => .int
  | 13 => .int
  | 14 => .int
  | 15 => .int
  | 16 => .int
  | _ => .int
abbrev wsX00 : List Cond := u_ws RX0 TX0 18
theorem nmX0 : ∀ a, a < 18 → ∀ b, b < 18 → a ≠ b → (TX0 a).2.1 ≠ (TX0 b).2.1 := by decide +kernel
theorem tyX0_ok : ∀ k, k < 18 → parseFieldDescriptor (TX0 k).2.2.1 = some (tyX0 k) := by decide +kernel
abbrev cX0_init : ByteArray := prog_1_method_1_code
def yX0_init : MethodName := ⟨RX0, "<init>", "()V"⟩
abbrev cX0_set : ByteArray := prog_1_method_2_code
def yX0_set : MethodName := ⟨RX0, "set", "(II)Z"⟩
abbrev cX0_parameter : ByteArray := prog_1_method_3_code
def yX0_parameter : MethodName := ⟨RX0, "parameter", "(I)I"⟩
abbrev cX0_sense : ByteArray := prog_1_method_4_code
def yX0_sense : MethodName := ⟨RX0, "sense", "(II)Z"⟩
abbrev cX0_conditioned : ByteArray := prog_1_method_5_code
def yX0_conditioned : MethodName := ⟨RX0, "conditioned", "(I)I"⟩
abbrev cX0_faulty : ByteArray := prog_1_method_6_code
def yX0_faulty : MethodName := ⟨RX0, "faulty", "(I)Z"⟩
abbrev cX0_next : ByteArray := prog_1_method_7_code
def yX0_next : MethodName := ⟨RX0, "next", "()I"⟩
abbrev cX0_acknowledge : ByteArray := prog_1_method_8_code
def yX0_acknowledge : MethodName := ⟨RX0, "acknowledge", "()I"⟩
abbrev cX0_substitute : ByteArray := prog_1_method_9_code
def yX0_substitute : MethodName := ⟨RX0, "substitute", "(I)Z"⟩
abbrev cX0_tick : ByteArray := prog_1_method_10_code
def yX0_tick : MethodName := ⟨RX0, "tick", "(I)I"⟩
abbrev cX0_phase : ByteArray := prog_1_method_11_code
def yX0_phase : MethodName := ⟨RX0, "phase", "()I"⟩
abbrev cX0_alarms : ByteArray := prog_1_method_12_code
def yX0_alarms : MethodName := ⟨RX0, "alarms", "()I"⟩
abbrev cX0_conditions : ByteArray := prog_1_method_13_code
def yX0_conditions : MethodName := ⟨RX0, "conditions", "()I"⟩
abbrev cX0_outputs : ByteArray := prog_1_method_14_code
def yX0_outputs : MethodName := ⟨RX0, "outputs", "()I"⟩
abbrev cX0_effective : ByteArray := prog_1_method_15_code
def yX0_effective : MethodName := ⟨RX0, "effective", "()I"⟩
abbrev cX0_accounted : ByteArray := prog_1_method_16_code
def yX0_accounted : MethodName := ⟨RX0, "accounted", "()I"⟩
abbrev cX0_strokes : ByteArray := prog_1_method_17_code
def yX0_strokes : MethodName := ⟨RX0, "strokes", "()I"⟩
abbrev cX0_trips : ByteArray := prog_1_method_18_code
def yX0_trips : MethodName := ⟨RX0, "trips", "()I"⟩
abbrev cX0_counted : ByteArray := prog_1_method_19_code
def yX0_counted : MethodName := ⟨RX0, "counted", "()I"⟩
abbrev cX0_isParameter : ByteArray := prog_1_method_21_code
def yX0_isParameter : MethodName := ⟨RX0, "isParameter", "(I)Z"⟩
abbrev cX0_isSensor : ByteArray := prog_1_method_22_code
def yX0_isSensor : MethodName := ⟨RX0, "isSensor", "(I)Z"⟩
abbrev cX0_isOutside : ByteArray := prog_1_method_23_code
def yX0_isOutside : MethodName := ⟨RX0, "isOutside", "(III)Z"⟩
abbrev cX0_mayLeavePhase : ByteArray := prog_1_method_24_code
def yX0_mayLeavePhase : MethodName := ⟨RX0, "mayLeavePhase", "()Z"⟩
abbrev cX0_areConsistent : ByteArray := prog_1_method_25_code
def yX0_areConsistent : MethodName := ⟨RX0, "areConsistent", "()Z"⟩
abbrev cX0_beginPhase : ByteArray := prog_1_method_26_code
def yX0_beginPhase : MethodName := ⟨RX0, "beginPhase", "(I)V"⟩
abbrev cX0_makeTick : ByteArray := prog_1_method_27_code
def yX0_makeTick : MethodName := ⟨RX0, "makeTick", "()Z"⟩
abbrev cX0_conditionSensors : ByteArray := prog_1_method_28_code
def yX0_conditionSensors : MethodName := ⟨RX0, "conditionSensors", "()V"⟩
abbrev cX0_countTicksInARow : ByteArray := prog_1_method_29_code
def yX0_countTicksInARow : MethodName := ⟨RX0, "countTicksInARow", "()V"⟩
abbrev cX0_isConnected : ByteArray := prog_1_method_30_code
def yX0_isConnected : MethodName := ⟨RX0, "isConnected", "()Z"⟩
abbrev cX0_isFluidOff : ByteArray := prog_1_method_31_code
def yX0_isFluidOff : MethodName := ⟨RX0, "isFluidOff", "()Z"⟩
abbrev cX0_conditionsNow : ByteArray := prog_1_method_32_code
def yX0_conditionsNow : MethodName := ⟨RX0, "conditionsNow", "()I"⟩
abbrev cX0_isSomeSensorFaulty : ByteArray := prog_1_method_33_code
def yX0_isSomeSensorFaulty : MethodName := ⟨RX0, "isSomeSensorFaulty", "()Z"⟩
abbrev cX0_commandsOfControl : ByteArray := prog_1_method_34_code
def yX0_commandsOfControl : MethodName := ⟨RX0, "commandsOfControl", "()I"⟩
abbrev cX0_isStrokeWanted : ByteArray := prog_1_method_35_code
def yX0_isStrokeWanted : MethodName := ⟨RX0, "isStrokeWanted", "()Z"⟩
abbrev cX0_ticksOfTreatment : ByteArray := prog_1_method_36_code
def yX0_ticksOfTreatment : MethodName := ⟨RX0, "ticksOfTreatment", "()I"⟩
abbrev cX0_afterProtection : ByteArray := prog_1_method_37_code
def yX0_afterProtection : MethodName := ⟨RX0, "afterProtection", "(I)I"⟩
abbrev cX0_isRawDangerous : ByteArray := prog_1_method_38_code
def yX0_isRawDangerous : MethodName := ⟨RX0, "isRawDangerous", "()Z"⟩
abbrev cX0_isStrokeTooMuch : ByteArray := prog_1_method_39_code
def yX0_isStrokeTooMuch : MethodName := ⟨RX0, "isStrokeTooMuch", "()Z"⟩
abbrev cX0_countTowardsEnd : ByteArray := prog_1_method_40_code
def yX0_countTowardsEnd : MethodName := ⟨RX0, "countTowardsEnd", "()V"⟩
def RX1 : String := "BloodCircuitChannelsModel"
def TX1 : u_T := fun k => match k with
  | _ => ("", "", "", false)
def tyX1 : Nat → FieldType := fun k => match k with
  | _ => .int
abbrev wsX10 : List Cond := u_ws RX1 TX1 0
theorem nmX1 : ∀ a, a < 0 → ∀ b, b < 0 → a ≠ b → (TX1 a).2.1 ≠ (TX1 b).2.1 := by decide +kernel
theorem tyX1_ok : ∀ k, k < 0 → parseFieldDescriptor (TX1 k).2.2.1 = some (tyX1 k) := by decide +kernel
def RJx8e188 : String := "java/lang/Cloneable"
def TJx8e188 : u_T := fun k => match k with
  | _ => ("", "", "", false)
def tyJx8e188 : Nat → FieldType := fun k => match k with
  | _ => .int
abbrev wsJx8e1880 : List Cond := u_ws RJx8e188 TJx8e188 0
theorem nmJx8e188 : ∀ a, a < 0 → ∀ b, b < 0 → a ≠ b → (TJx8e188 a).2.1 ≠ (TJx8e188 b).2.1 := by decide +kernel
theorem tyJx8e188_ok : ∀ k, k < 0 → parseFieldDescriptor (TJx8e188 k).2.2.1 = some (tyJx8e188 k) := by decide +kernel
def RJ9 : String := "java/lang/Math"
def TJ9 : u_T := fun k => match k with
  | _ => ("", "", "", false)
def tyJ9 : Nat → FieldType := fun k => match k with
  | _ => .int
abbrev wsJ90 : List Cond := u_ws RJ9 TJ9 0
theorem nmJ9 : ∀ a, a < 0 → ∀ b, b < 0 → a ≠ b → (TJ9 a).2.1 ≠ (TJ9 b).2.1 := by decide +kernel
theorem tyJ9_ok : ∀ k, k < 0 → parseFieldDescriptor (TJ9 k).2.2.1 = some (tyJ9 k) := by decide +kernel
abbrev cJ9_abs_0f7a4 : ByteArray := prog_5_method_59_code
def yJ9_abs_0f7a4 : MethodName := ⟨RJ9, "abs", "(I)I"⟩
def RL : String := "BloodCircuitChannelsLaw"
abbrev cL_law : ByteArray := code
def yL_law : MethodName := ⟨RL, "law", "([I)Z"⟩
def wsX0_init : List Cond := .code yX0_init cX0_init 1 none :: ([.methodLink RX0 3 objectInit, .instanceMethod objectInit, .code objectInit ⟨#[0xb1]⟩ 1 none, .fieldLink RX0 9 "BloodCircuitChannels" "PARAMETER_AT_FIRST" "[I", .methodLink RX0 13 ⟨"[I", "clone", "()Ljava/lang/Object;"⟩, .sameMethod "[I" "java/lang/Object" "clone" "()Ljava/lang/Object;", .native ⟨"java/lang/Object", "clone", "()Ljava/lang/Object;"⟩, .instanceMethod ⟨"java/lang/Object", "clone", "()Ljava/lang/Object;"⟩, .selects "[I" ⟨"[I", "clone", "()Ljava/lang/Object;"⟩ ⟨"java/lang/Object", "clone", "()Ljava/lang/Object;"⟩, .classLink RX0 14 "[I", .fieldLink RX0 18 "BloodCircuitChannels" "parameters" "[I", .fieldLink RX0 21 "BloodCircuitChannels" "SENSOR_AT_FIRST" "[I", .fieldLink RX0 24 "BloodCircuitChannels" "raw" "[I", .fieldLink RX0 27 "BloodCircuitChannels" "conditioned" "[I", .arrayClass .int, .fieldLink RX0 30 "BloodCircuitChannels" "implausibleTicks" "[I", .fieldLink RX0 33 "BloodCircuitChannels" "phase" "I", .fieldLink RX0 37 "BloodCircuitChannels" "substituted" "I"] ++ wsX00)
def wsX0_isParameter : List Cond := .code yX0_isParameter cX0_isParameter 1 (some .boolean) :: ([])
def wsX0_isOutside : List Cond := .code yX0_isOutside cX0_isOutside 3 (some .boolean) :: ([])
def wsX0_set : List Cond := .code yX0_set cX0_set 3 (some .boolean) :: ([.fieldLink RX0 33 "BloodCircuitChannels" "phase" "I", .fieldLink RX0 44 "BloodCircuitChannels" "PARAMETER_LEAST" "[I", .fieldLink RX0 47 "BloodCircuitChannels" "PARAMETER_GREATEST" "[I", .fieldLink RX0 18 "BloodCircuitChannels" "parameters" "[I", .methodLink RX0 40 yX0_isParameter, .static yX0_isParameter, .initialized RX0, .code yX0_isParameter cX0_isParameter 1 (some .boolean), .methodLink RX0 50 yX0_isOutside, .static yX0_isOutside, .code yX0_isOutside cX0_isOutside 3 (some .boolean)] ++ wsX00)
def wsX0_parameter : List Cond := .code yX0_parameter cX0_parameter 2 (some .int) :: ([.fieldLink RX0 18 "BloodCircuitChannels" "parameters" "[I", .methodLink RX0 40 yX0_isParameter, .static yX0_isParameter, .initialized RX0, .code yX0_isParameter cX0_isParameter 1 (some .boolean)] ++ wsX00)
def wsX0_isSensor : List Cond := .code yX0_isSensor cX0_isSensor 1 (some .boolean) :: ([])
def wsX0_sense : List Cond := .code yX0_sense cX0_sense 3 (some .boolean) :: ([.fieldLink RX0 24 "BloodCircuitChannels" "raw" "[I", .methodLink RX0 54 yX0_isSensor, .static yX0_isSensor, .initialized RX0, .code yX0_isSensor cX0_isSensor 1 (some .boolean)] ++ wsX00)
def wsX0_conditioned : List Cond := .code yX0_conditioned cX0_conditioned 2 (some .int) :: ([.fieldLink RX0 27 "BloodCircuitChannels" "conditioned" "[I", .methodLink RX0 54 yX0_isSensor, .static yX0_isSensor, .initialized RX0, .code yX0_isSensor cX0_isSensor 1 (some .boolean)] ++ wsX00)
def wsX0_faulty : List Cond := .code yX0_faulty cX0_faulty 2 (some .boolean) :: ([.fieldLink RX0 30 "BloodCircuitChannels" "implausibleTicks" "[I", .methodLink RX0 54 yX0_isSensor, .static yX0_isSensor, .initialized RX0, .code yX0_isSensor cX0_isSensor 1 (some .boolean)] ++ wsX00)
def wsX0_areConsistent : List Cond := .code yX0_areConsistent cX0_areConsistent 1 (some .boolean) :: ([.fieldLink RX0 18 "BloodCircuitChannels" "parameters" "[I"] ++ wsX00)
def wsX0_mayLeavePhase : List Cond := .code yX0_mayLeavePhase cX0_mayLeavePhase 1 (some .boolean) :: ([.fieldLink RX0 33 "BloodCircuitChannels" "phase" "I", .fieldLink RX0 92 "BloodCircuitChannels" "steadyTicks" "I", .fieldLink RX0 65 "BloodCircuitChannels" "alarms" "I", .fieldLink RX0 89 "BloodCircuitChannels" "counted" "I", .methodLink RX0 95 yX0_areConsistent, .instanceMethod yX0_areConsistent, .selects RX0 yX0_areConsistent yX0_areConsistent, .initialized RX0, .code yX0_areConsistent cX0_areConsistent 1 (some .boolean), .fieldLink RX0 18 "BloodCircuitChannels" "parameters" "[I"] ++ wsX00)
def wsX0_beginPhase : List Cond := .code yX0_beginPhase cX0_beginPhase 2 none :: ([.fieldLink RX0 33 "BloodCircuitChannels" "phase" "I", .fieldLink RX0 89 "BloodCircuitChannels" "counted" "I", .fieldLink RX0 77 "BloodCircuitChannels" "effective" "I", .fieldLink RX0 80 "BloodCircuitChannels" "accounted" "I", .fieldLink RX0 83 "BloodCircuitChannels" "strokes" "I"] ++ wsX00)
def wsX0_next : List Cond := .code yX0_next cX0_next 1 (some .int) :: ([.fieldLink RX0 33 "BloodCircuitChannels" "phase" "I", .methodLink RX0 57 yX0_mayLeavePhase, .instanceMethod yX0_mayLeavePhase, .selects RX0 yX0_mayLeavePhase yX0_mayLeavePhase, .initialized RX0, .code yX0_mayLeavePhase cX0_mayLeavePhase 1 (some .boolean), .fieldLink RX0 92 "BloodCircuitChannels" "steadyTicks" "I", .fieldLink RX0 65 "BloodCircuitChannels" "alarms" "I", .fieldLink RX0 89 "BloodCircuitChannels" "counted" "I", .methodLink RX0 95 yX0_areConsistent, .instanceMethod yX0_areConsistent, .selects RX0 yX0_areConsistent yX0_areConsistent, .code yX0_areConsistent cX0_areConsistent 1 (some .boolean), .fieldLink RX0 18 "BloodCircuitChannels" "parameters" "[I", .methodLink RX0 61 yX0_beginPhase, .instanceMethod yX0_beginPhase, .selects RX0 yX0_beginPhase yX0_beginPhase, .code yX0_beginPhase cX0_beginPhase 2 none, .fieldLink RX0 77 "BloodCircuitChannels" "effective" "I", .fieldLink RX0 80 "BloodCircuitChannels" "accounted" "I", .fieldLink RX0 83 "BloodCircuitChannels" "strokes" "I"] ++ wsX00)
def wsX0_acknowledge : List Cond := .code yX0_acknowledge cX0_acknowledge 1 (some .int) :: ([.fieldLink RX0 65 "BloodCircuitChannels" "alarms" "I", .fieldLink RX0 68 "BloodCircuitChannels" "conditions" "I"] ++ wsX00)
def wsX0_substitute : List Cond := .code yX0_substitute cX0_substitute 2 (some .boolean) :: ([.fieldLink RX0 37 "BloodCircuitChannels" "substituted" "I", .methodLink RX0 50 yX0_isOutside, .static yX0_isOutside, .initialized RX0, .code yX0_isOutside cX0_isOutside 3 (some .boolean)] ++ wsX00)
def wsX0_conditionSensors : List Cond := .code yX0_conditionSensors cX0_conditionSensors 2 none :: ([.fieldLink RX0 24 "BloodCircuitChannels" "raw" "[I", .fieldLink RX0 118 "BloodCircuitChannels" "SENSOR_LEAST" "[I", .fieldLink RX0 121 "BloodCircuitChannels" "SENSOR_GREATEST" "[I", .fieldLink RX0 30 "BloodCircuitChannels" "implausibleTicks" "[I", .fieldLink RX0 27 "BloodCircuitChannels" "conditioned" "[I", .methodLink RX0 50 yX0_isOutside, .static yX0_isOutside, .initialized RX0, .code yX0_isOutside cX0_isOutside 3 (some .boolean)] ++ wsX00)
def wsX0_isConnected : List Cond := .code yX0_isConnected cX0_isConnected 1 (some .boolean) :: ([.fieldLink RX0 33 "BloodCircuitChannels" "phase" "I"] ++ wsX00)
def wsX0_isFluidOff : List Cond := .code yX0_isFluidOff cX0_isFluidOff 1 (some .boolean) :: ([.fieldLink RX0 27 "BloodCircuitChannels" "conditioned" "[I", .fieldLink RX0 18 "BloodCircuitChannels" "parameters" "[I", .methodLink RX0 139 Lib.Math.abs.name, .static Lib.Math.abs.name, .initialized "java/lang/Math", .code Lib.Math.abs.name Lib.Math.abs.code 1 (some .int)] ++ wsX00)
def wsX0_countTicksInARow : List Cond := .code yX0_countTicksInARow cX0_countTicksInARow 5 none :: ([.fieldLink RX0 27 "BloodCircuitChannels" "conditioned" "[I", .fieldLink RX0 18 "BloodCircuitChannels" "parameters" "[I", .fieldLink RX0 130 "BloodCircuitChannels" "arterialOutTicks" "I", .fieldLink RX0 133 "BloodCircuitChannels" "venousOutTicks" "I", .fieldLink RX0 136 "BloodCircuitChannels" "fluidOffTicks" "I", .fieldLink RX0 92 "BloodCircuitChannels" "steadyTicks" "I", .methodLink RX0 124 yX0_isConnected, .instanceMethod yX0_isConnected, .selects RX0 yX0_isConnected yX0_isConnected, .initialized RX0, .code yX0_isConnected cX0_isConnected 1 (some .boolean), .fieldLink RX0 33 "BloodCircuitChannels" "phase" "I", .methodLink RX0 50 yX0_isOutside, .static yX0_isOutside, .code yX0_isOutside cX0_isOutside 3 (some .boolean), .methodLink RX0 127 yX0_isFluidOff, .instanceMethod yX0_isFluidOff, .selects RX0 yX0_isFluidOff yX0_isFluidOff, .code yX0_isFluidOff cX0_isFluidOff 1 (some .boolean), .methodLink RX0 139 Lib.Math.abs.name, .static Lib.Math.abs.name, .initialized "java/lang/Math", .code Lib.Math.abs.name Lib.Math.abs.code 1 (some .int)] ++ wsX00)
def wsX0_isSomeSensorFaulty : List Cond := .code yX0_isSomeSensorFaulty cX0_isSomeSensorFaulty 2 (some .boolean) :: ([.fieldLink RX0 30 "BloodCircuitChannels" "implausibleTicks" "[I"] ++ wsX00)
def wsX0_conditionsNow : List Cond := .code yX0_conditionsNow cX0_conditionsNow 1 (some .int) :: ([.fieldLink RX0 130 "BloodCircuitChannels" "arterialOutTicks" "I", .fieldLink RX0 133 "BloodCircuitChannels" "venousOutTicks" "I", .fieldLink RX0 27 "BloodCircuitChannels" "conditioned" "[I", .fieldLink RX0 33 "BloodCircuitChannels" "phase" "I", .fieldLink RX0 136 "BloodCircuitChannels" "fluidOffTicks" "I", .methodLink RX0 124 yX0_isConnected, .instanceMethod yX0_isConnected, .selects RX0 yX0_isConnected yX0_isConnected, .initialized RX0, .code yX0_isConnected cX0_isConnected 1 (some .boolean), .methodLink RX0 144 yX0_isSomeSensorFaulty, .instanceMethod yX0_isSomeSensorFaulty, .selects RX0 yX0_isSomeSensorFaulty yX0_isSomeSensorFaulty, .code yX0_isSomeSensorFaulty cX0_isSomeSensorFaulty 2 (some .boolean), .fieldLink RX0 30 "BloodCircuitChannels" "implausibleTicks" "[I"] ++ wsX00)
def wsX0_ticksOfTreatment : List Cond := .code yX0_ticksOfTreatment cX0_ticksOfTreatment 1 (some .int) :: ([.fieldLink RX0 18 "BloodCircuitChannels" "parameters" "[I"] ++ wsX00)
def wsX0_isStrokeWanted : List Cond := .code yX0_isStrokeWanted cX0_isStrokeWanted 3 (some .boolean) :: ([.fieldLink RX0 18 "BloodCircuitChannels" "parameters" "[I", .constantLong RX0 150 (1000), .fieldLink RX0 77 "BloodCircuitChannels" "effective" "I", .fieldLink RX0 80 "BloodCircuitChannels" "accounted" "I", .methodLink RX0 152 yX0_ticksOfTreatment, .instanceMethod yX0_ticksOfTreatment, .selects RX0 yX0_ticksOfTreatment yX0_ticksOfTreatment, .initialized RX0, .code yX0_ticksOfTreatment cX0_ticksOfTreatment 1 (some .int)] ++ wsX00)
def wsX0_commandsOfControl : List Cond := .code yX0_commandsOfControl cX0_commandsOfControl 6 (some .int) :: ([.fieldLink RX0 33 "BloodCircuitChannels" "phase" "I", .fieldLink RX0 65 "BloodCircuitChannels" "alarms" "I", .fieldLink RX0 136 "BloodCircuitChannels" "fluidOffTicks" "I", .fieldLink RX0 77 "BloodCircuitChannels" "effective" "I", .fieldLink RX0 80 "BloodCircuitChannels" "accounted" "I", .methodLink RX0 147 yX0_isStrokeWanted, .instanceMethod yX0_isStrokeWanted, .selects RX0 yX0_isStrokeWanted yX0_isStrokeWanted, .initialized RX0, .code yX0_isStrokeWanted cX0_isStrokeWanted 3 (some .boolean), .fieldLink RX0 18 "BloodCircuitChannels" "parameters" "[I", .constantLong RX0 150 (1000), .methodLink RX0 152 yX0_ticksOfTreatment, .instanceMethod yX0_ticksOfTreatment, .selects RX0 yX0_ticksOfTreatment yX0_ticksOfTreatment, .code yX0_ticksOfTreatment cX0_ticksOfTreatment 1 (some .int)] ++ wsX00)
def wsX0_isRawDangerous : List Cond := .code yX0_isRawDangerous cX0_isRawDangerous 1 (some .boolean) :: ([.fieldLink RX0 24 "BloodCircuitChannels" "raw" "[I", .methodLink RX0 50 yX0_isOutside, .static yX0_isOutside, .initialized RX0, .code yX0_isOutside cX0_isOutside 3 (some .boolean)] ++ wsX00)
def wsX0_isStrokeTooMuch : List Cond := .code yX0_isStrokeTooMuch cX0_isStrokeTooMuch 1 (some .boolean) :: ([.fieldLink RX0 83 "BloodCircuitChannels" "strokes" "I", .fieldLink RX0 18 "BloodCircuitChannels" "parameters" "[I"] ++ wsX00)
def wsX0_afterProtection : List Cond := .code yX0_afterProtection cX0_afterProtection 3 (some .int) :: ([.fieldLink RX0 86 "BloodCircuitChannels" "trips" "I", .fieldLink RX0 33 "BloodCircuitChannels" "phase" "I", .fieldLink RX0 24 "BloodCircuitChannels" "raw" "[I", .methodLink RX0 124 yX0_isConnected, .instanceMethod yX0_isConnected, .selects RX0 yX0_isConnected yX0_isConnected, .initialized RX0, .code yX0_isConnected cX0_isConnected 1 (some .boolean), .methodLink RX0 155 yX0_isRawDangerous, .instanceMethod yX0_isRawDangerous, .selects RX0 yX0_isRawDangerous yX0_isRawDangerous, .code yX0_isRawDangerous cX0_isRawDangerous 1 (some .boolean), .methodLink RX0 50 yX0_isOutside, .static yX0_isOutside, .code yX0_isOutside cX0_isOutside 3 (some .boolean), .methodLink RX0 158 yX0_isStrokeTooMuch, .instanceMethod yX0_isStrokeTooMuch, .selects RX0 yX0_isStrokeTooMuch yX0_isStrokeTooMuch, .code yX0_isStrokeTooMuch cX0_isStrokeTooMuch 1 (some .boolean), .fieldLink RX0 83 "BloodCircuitChannels" "strokes" "I", .fieldLink RX0 18 "BloodCircuitChannels" "parameters" "[I"] ++ wsX00)
def wsX0_countTowardsEnd : List Cond := .code yX0_countTowardsEnd cX0_countTowardsEnd 2 none :: ([.fieldLink RX0 33 "BloodCircuitChannels" "phase" "I", .fieldLink RX0 74 "BloodCircuitChannels" "outputs" "I", .fieldLink RX0 89 "BloodCircuitChannels" "counted" "I", .fieldLink RX0 77 "BloodCircuitChannels" "effective" "I", .methodLink RX0 152 yX0_ticksOfTreatment, .instanceMethod yX0_ticksOfTreatment, .selects RX0 yX0_ticksOfTreatment yX0_ticksOfTreatment, .initialized RX0, .code yX0_ticksOfTreatment cX0_ticksOfTreatment 1 (some .int), .fieldLink RX0 18 "BloodCircuitChannels" "parameters" "[I", .methodLink RX0 61 yX0_beginPhase, .instanceMethod yX0_beginPhase, .selects RX0 yX0_beginPhase yX0_beginPhase, .code yX0_beginPhase cX0_beginPhase 2 none, .fieldLink RX0 80 "BloodCircuitChannels" "accounted" "I", .fieldLink RX0 83 "BloodCircuitChannels" "strokes" "I"] ++ wsX00)
def wsX0_makeTick_r1 : List Cond := [Cond.fieldLink RX0 65 "BloodCircuitChannels" "alarms" "I", Cond.fieldLink RX0 33 "BloodCircuitChannels" "phase" "I", Cond.fieldLink RX0 68 "BloodCircuitChannels" "conditions" "I", Cond.fieldLink RX0 37 "BloodCircuitChannels" "substituted" "I", Cond.fieldLink RX0 74 "BloodCircuitChannels" "outputs" "I", Cond.fieldLink RX0 83 "BloodCircuitChannels" "strokes" "I", Cond.methodLink RX0 98 yX0_conditionSensors, Cond.instanceMethod yX0_conditionSensors, Cond.selects RX0 yX0_conditionSensors yX0_conditionSensors, Cond.initialized RX0, Cond.code yX0_conditionSensors cX0_conditionSensors 2 none, Cond.fieldLink RX0 24 "BloodCircuitChannels" "raw" "[I", Cond.fieldLink RX0 118 "BloodCircuitChannels" "SENSOR_LEAST" "[I", Cond.fieldLink RX0 121 "BloodCircuitChannels" "SENSOR_GREATEST" "[I", Cond.fieldLink RX0 30 "BloodCircuitChannels" "implausibleTicks" "[I", Cond.fieldLink RX0 27 "BloodCircuitChannels" "conditioned" "[I", Cond.methodLink RX0 50 yX0_isOutside, Cond.static yX0_isOutside, Cond.code yX0_isOutside cX0_isOutside 3 (some .boolean), Cond.methodLink RX0 101 yX0_countTicksInARow, Cond.instanceMethod yX0_countTicksInARow, Cond.selects RX0 yX0_countTicksInARow yX0_countTicksInARow, Cond.code yX0_countTicksInARow cX0_countTicksInARow 5 none, Cond.fieldLink RX0 18 "BloodCircuitChannels" "parameters" "[I"]
def wsX0_makeTick_r2 : List Cond := [Cond.fieldLink RX0 130 "BloodCircuitChannels" "arterialOutTicks" "I", Cond.fieldLink RX0 133 "BloodCircuitChannels" "venousOutTicks" "I", Cond.fieldLink RX0 136 "BloodCircuitChannels" "fluidOffTicks" "I", Cond.fieldLink RX0 92 "BloodCircuitChannels" "steadyTicks" "I", Cond.methodLink RX0 124 yX0_isConnected, Cond.instanceMethod yX0_isConnected, Cond.selects RX0 yX0_isConnected yX0_isConnected, Cond.code yX0_isConnected cX0_isConnected 1 (some .boolean), Cond.methodLink RX0 127 yX0_isFluidOff, Cond.instanceMethod yX0_isFluidOff, Cond.selects RX0 yX0_isFluidOff yX0_isFluidOff, Cond.code yX0_isFluidOff cX0_isFluidOff 1 (some .boolean), Cond.methodLink RX0 139 Lib.Math.abs.name, Cond.static Lib.Math.abs.name, Cond.initialized "java/lang/Math", Cond.code Lib.Math.abs.name Lib.Math.abs.code 1 (some .int), Cond.methodLink RX0 104 yX0_conditionsNow, Cond.instanceMethod yX0_conditionsNow, Cond.selects RX0 yX0_conditionsNow yX0_conditionsNow, Cond.code yX0_conditionsNow cX0_conditionsNow 1 (some .int), Cond.methodLink RX0 144 yX0_isSomeSensorFaulty, Cond.instanceMethod yX0_isSomeSensorFaulty, Cond.selects RX0 yX0_isSomeSensorFaulty yX0_isSomeSensorFaulty, Cond.code yX0_isSomeSensorFaulty cX0_isSomeSensorFaulty 2 (some .boolean)]
def wsX0_makeTick_r3 : List Cond := [Cond.methodLink RX0 108 yX0_commandsOfControl, Cond.instanceMethod yX0_commandsOfControl, Cond.selects RX0 yX0_commandsOfControl yX0_commandsOfControl, Cond.code yX0_commandsOfControl cX0_commandsOfControl 6 (some .int), Cond.fieldLink RX0 77 "BloodCircuitChannels" "effective" "I", Cond.fieldLink RX0 80 "BloodCircuitChannels" "accounted" "I", Cond.methodLink RX0 147 yX0_isStrokeWanted, Cond.instanceMethod yX0_isStrokeWanted, Cond.selects RX0 yX0_isStrokeWanted yX0_isStrokeWanted, Cond.code yX0_isStrokeWanted cX0_isStrokeWanted 3 (some .boolean), Cond.constantLong RX0 150 (1000), Cond.methodLink RX0 152 yX0_ticksOfTreatment, Cond.instanceMethod yX0_ticksOfTreatment, Cond.selects RX0 yX0_ticksOfTreatment yX0_ticksOfTreatment, Cond.code yX0_ticksOfTreatment cX0_ticksOfTreatment 1 (some .int), Cond.methodLink RX0 111 yX0_afterProtection, Cond.instanceMethod yX0_afterProtection, Cond.selects RX0 yX0_afterProtection yX0_afterProtection, Cond.code yX0_afterProtection cX0_afterProtection 3 (some .int), Cond.fieldLink RX0 86 "BloodCircuitChannels" "trips" "I", Cond.methodLink RX0 155 yX0_isRawDangerous, Cond.instanceMethod yX0_isRawDangerous, Cond.selects RX0 yX0_isRawDangerous yX0_isRawDangerous, Cond.code yX0_isRawDangerous cX0_isRawDangerous 1 (some .boolean)]
def wsX0_makeTick_r4 : List Cond := [Cond.methodLink RX0 158 yX0_isStrokeTooMuch, Cond.instanceMethod yX0_isStrokeTooMuch, Cond.selects RX0 yX0_isStrokeTooMuch yX0_isStrokeTooMuch, Cond.code yX0_isStrokeTooMuch cX0_isStrokeTooMuch 1 (some .boolean), Cond.methodLink RX0 115 yX0_countTowardsEnd, Cond.instanceMethod yX0_countTowardsEnd, Cond.selects RX0 yX0_countTowardsEnd yX0_countTowardsEnd, Cond.code yX0_countTowardsEnd cX0_countTowardsEnd 2 none, Cond.fieldLink RX0 89 "BloodCircuitChannels" "counted" "I", Cond.methodLink RX0 61 yX0_beginPhase, Cond.instanceMethod yX0_beginPhase, Cond.selects RX0 yX0_beginPhase yX0_beginPhase, Cond.code yX0_beginPhase cX0_beginPhase 2 none]
def wsX0_makeTick : List Cond := .code yX0_makeTick cX0_makeTick 4 (some .boolean) :: ((wsX0_makeTick_r1 ++ (wsX0_makeTick_r2 ++ (wsX0_makeTick_r3 ++ wsX0_makeTick_r4))) ++ wsX00)
def wsX0_tick_r1 : List Cond := [Cond.methodLink RX0 50 yX0_isOutside, Cond.static yX0_isOutside, Cond.initialized RX0, Cond.code yX0_isOutside cX0_isOutside 3 (some .boolean), Cond.methodLink RX0 71 yX0_makeTick, Cond.instanceMethod yX0_makeTick, Cond.selects RX0 yX0_makeTick yX0_makeTick, Cond.code yX0_makeTick cX0_makeTick 4 (some .boolean), Cond.fieldLink RX0 65 "BloodCircuitChannels" "alarms" "I", Cond.fieldLink RX0 33 "BloodCircuitChannels" "phase" "I", Cond.fieldLink RX0 68 "BloodCircuitChannels" "conditions" "I", Cond.fieldLink RX0 37 "BloodCircuitChannels" "substituted" "I", Cond.fieldLink RX0 74 "BloodCircuitChannels" "outputs" "I", Cond.fieldLink RX0 83 "BloodCircuitChannels" "strokes" "I", Cond.methodLink RX0 98 yX0_conditionSensors, Cond.instanceMethod yX0_conditionSensors, Cond.selects RX0 yX0_conditionSensors yX0_conditionSensors, Cond.code yX0_conditionSensors cX0_conditionSensors 2 none, Cond.fieldLink RX0 24 "BloodCircuitChannels" "raw" "[I", Cond.fieldLink RX0 118 "BloodCircuitChannels" "SENSOR_LEAST" "[I", Cond.fieldLink RX0 121 "BloodCircuitChannels" "SENSOR_GREATEST" "[I", Cond.fieldLink RX0 30 "BloodCircuitChannels" "implausibleTicks" "[I", Cond.fieldLink RX0 27 "BloodCircuitChannels" "conditioned" "[I", Cond.methodLink RX0 101 yX0_countTicksInARow]
def wsX0_tick_r2 : List Cond := [Cond.instanceMethod yX0_countTicksInARow, Cond.selects RX0 yX0_countTicksInARow yX0_countTicksInARow, Cond.code yX0_countTicksInARow cX0_countTicksInARow 5 none, Cond.fieldLink RX0 18 "BloodCircuitChannels" "parameters" "[I", Cond.fieldLink RX0 130 "BloodCircuitChannels" "arterialOutTicks" "I", Cond.fieldLink RX0 133 "BloodCircuitChannels" "venousOutTicks" "I", Cond.fieldLink RX0 136 "BloodCircuitChannels" "fluidOffTicks" "I", Cond.fieldLink RX0 92 "BloodCircuitChannels" "steadyTicks" "I", Cond.methodLink RX0 124 yX0_isConnected, Cond.instanceMethod yX0_isConnected, Cond.selects RX0 yX0_isConnected yX0_isConnected, Cond.code yX0_isConnected cX0_isConnected 1 (some .boolean), Cond.methodLink RX0 127 yX0_isFluidOff, Cond.instanceMethod yX0_isFluidOff, Cond.selects RX0 yX0_isFluidOff yX0_isFluidOff, Cond.code yX0_isFluidOff cX0_isFluidOff 1 (some .boolean), Cond.methodLink RX0 139 Lib.Math.abs.name, Cond.static Lib.Math.abs.name, Cond.initialized "java/lang/Math", Cond.code Lib.Math.abs.name Lib.Math.abs.code 1 (some .int), Cond.methodLink RX0 104 yX0_conditionsNow, Cond.instanceMethod yX0_conditionsNow, Cond.selects RX0 yX0_conditionsNow yX0_conditionsNow, Cond.code yX0_conditionsNow cX0_conditionsNow 1 (some .int)]
def wsX0_tick_r3 : List Cond := [Cond.methodLink RX0 144 yX0_isSomeSensorFaulty, Cond.instanceMethod yX0_isSomeSensorFaulty, Cond.selects RX0 yX0_isSomeSensorFaulty yX0_isSomeSensorFaulty, Cond.code yX0_isSomeSensorFaulty cX0_isSomeSensorFaulty 2 (some .boolean), Cond.methodLink RX0 108 yX0_commandsOfControl, Cond.instanceMethod yX0_commandsOfControl, Cond.selects RX0 yX0_commandsOfControl yX0_commandsOfControl, Cond.code yX0_commandsOfControl cX0_commandsOfControl 6 (some .int), Cond.fieldLink RX0 77 "BloodCircuitChannels" "effective" "I", Cond.fieldLink RX0 80 "BloodCircuitChannels" "accounted" "I", Cond.methodLink RX0 147 yX0_isStrokeWanted, Cond.instanceMethod yX0_isStrokeWanted, Cond.selects RX0 yX0_isStrokeWanted yX0_isStrokeWanted, Cond.code yX0_isStrokeWanted cX0_isStrokeWanted 3 (some .boolean), Cond.constantLong RX0 150 (1000), Cond.methodLink RX0 152 yX0_ticksOfTreatment, Cond.instanceMethod yX0_ticksOfTreatment, Cond.selects RX0 yX0_ticksOfTreatment yX0_ticksOfTreatment, Cond.code yX0_ticksOfTreatment cX0_ticksOfTreatment 1 (some .int), Cond.methodLink RX0 111 yX0_afterProtection, Cond.instanceMethod yX0_afterProtection, Cond.selects RX0 yX0_afterProtection yX0_afterProtection, Cond.code yX0_afterProtection cX0_afterProtection 3 (some .int), Cond.fieldLink RX0 86 "BloodCircuitChannels" "trips" "I"]
def wsX0_tick_r4 : List Cond := [Cond.methodLink RX0 155 yX0_isRawDangerous, Cond.instanceMethod yX0_isRawDangerous, Cond.selects RX0 yX0_isRawDangerous yX0_isRawDangerous, Cond.code yX0_isRawDangerous cX0_isRawDangerous 1 (some .boolean), Cond.methodLink RX0 158 yX0_isStrokeTooMuch, Cond.instanceMethod yX0_isStrokeTooMuch, Cond.selects RX0 yX0_isStrokeTooMuch yX0_isStrokeTooMuch, Cond.code yX0_isStrokeTooMuch cX0_isStrokeTooMuch 1 (some .boolean), Cond.methodLink RX0 115 yX0_countTowardsEnd, Cond.instanceMethod yX0_countTowardsEnd, Cond.selects RX0 yX0_countTowardsEnd yX0_countTowardsEnd, Cond.code yX0_countTowardsEnd cX0_countTowardsEnd 2 none, Cond.fieldLink RX0 89 "BloodCircuitChannels" "counted" "I", Cond.methodLink RX0 61 yX0_beginPhase, Cond.instanceMethod yX0_beginPhase, Cond.selects RX0 yX0_beginPhase yX0_beginPhase, Cond.code yX0_beginPhase cX0_beginPhase 2 none]
def wsX0_tick : List Cond := .code yX0_tick cX0_tick 3 (some .int) :: ((wsX0_tick_r1 ++ (wsX0_tick_r2 ++ (wsX0_tick_r3 ++ wsX0_tick_r4))) ++ wsX00)
def wsX0_phase : List Cond := .code yX0_phase cX0_phase 1 (some .int) :: ([.fieldLink RX0 33 "BloodCircuitChannels" "phase" "I"] ++ wsX00)
def wsX0_alarms : List Cond := .code yX0_alarms cX0_alarms 1 (some .int) :: ([.fieldLink RX0 65 "BloodCircuitChannels" "alarms" "I"] ++ wsX00)
def wsX0_conditions : List Cond := .code yX0_conditions cX0_conditions 1 (some .int) :: ([.fieldLink RX0 68 "BloodCircuitChannels" "conditions" "I"] ++ wsX00)
def wsX0_outputs : List Cond := .code yX0_outputs cX0_outputs 1 (some .int) :: ([.fieldLink RX0 74 "BloodCircuitChannels" "outputs" "I"] ++ wsX00)
def wsX0_effective : List Cond := .code yX0_effective cX0_effective 1 (some .int) :: ([.fieldLink RX0 77 "BloodCircuitChannels" "effective" "I"] ++ wsX00)
def wsX0_accounted : List Cond := .code yX0_accounted cX0_accounted 1 (some .int) :: ([.fieldLink RX0 80 "BloodCircuitChannels" "accounted" "I"] ++ wsX00)
def wsX0_strokes : List Cond := .code yX0_strokes cX0_strokes 1 (some .int) :: ([.fieldLink RX0 83 "BloodCircuitChannels" "strokes" "I"] ++ wsX00)
def wsX0_trips : List Cond := .code yX0_trips cX0_trips 1 (some .int) :: ([.fieldLink RX0 86 "BloodCircuitChannels" "trips" "I"] ++ wsX00)
def wsX0_counted : List Cond := .code yX0_counted cX0_counted 1 (some .int) :: ([.fieldLink RX0 89 "BloodCircuitChannels" "counted" "I"] ++ wsX00)
def wsJ9_abs_0f7a4 : List Cond := .code yJ9_abs_0f7a4 cJ9_abs_0f7a4 1 (some .int) :: ([])
def wsL_law_r1 : List Cond := [Cond.classLink RL 7 RX0, Cond.instantiable RX0 18, Cond.initialized RX0, Cond.methodLink RL 9 yX0_init, Cond.instanceMethod yX0_init, Cond.code yX0_init cX0_init 1 none, Cond.methodLink RX0 3 objectInit, Cond.instanceMethod objectInit, Cond.code objectInit ⟨#[0xb1]⟩ 1 none, Cond.fieldLink RX0 9 "BloodCircuitChannels" "PARAMETER_AT_FIRST" "[I", Cond.methodLink RX0 13 ⟨"[I", "clone", "()Ljava/lang/Object;"⟩, Cond.sameMethod "[I" "java/lang/Object" "clone" "()Ljava/lang/Object;", Cond.native ⟨"java/lang/Object", "clone", "()Ljava/lang/Object;"⟩, Cond.instanceMethod ⟨"java/lang/Object", "clone", "()Ljava/lang/Object;"⟩, Cond.selects "[I" ⟨"[I", "clone", "()Ljava/lang/Object;"⟩ ⟨"java/lang/Object", "clone", "()Ljava/lang/Object;"⟩, Cond.classLink RX0 14 "[I", Cond.fieldLink RX0 18 "BloodCircuitChannels" "parameters" "[I", Cond.fieldLink RX0 21 "BloodCircuitChannels" "SENSOR_AT_FIRST" "[I", Cond.fieldLink RX0 24 "BloodCircuitChannels" "raw" "[I", Cond.fieldLink RX0 27 "BloodCircuitChannels" "conditioned" "[I", Cond.arrayClass .int, Cond.fieldLink RX0 30 "BloodCircuitChannels" "implausibleTicks" "[I", Cond.fieldLink RX0 33 "BloodCircuitChannels" "phase" "I", Cond.fieldLink RX0 37 "BloodCircuitChannels" "substituted" "I"]
def wsL_law_r2 : List Cond := [Cond.methodLink RL 13 yX0_set, Cond.instanceMethod yX0_set, Cond.selects RX0 yX0_set yX0_set, Cond.code yX0_set cX0_set 3 (some .boolean), Cond.fieldLink RX0 44 "BloodCircuitChannels" "PARAMETER_LEAST" "[I", Cond.fieldLink RX0 47 "BloodCircuitChannels" "PARAMETER_GREATEST" "[I", Cond.methodLink RX0 40 yX0_isParameter, Cond.static yX0_isParameter, Cond.code yX0_isParameter cX0_isParameter 1 (some .boolean), Cond.methodLink RX0 50 yX0_isOutside, Cond.static yX0_isOutside, Cond.code yX0_isOutside cX0_isOutside 3 (some .boolean), Cond.methodLink RL 18 yX0_parameter, Cond.instanceMethod yX0_parameter, Cond.selects RX0 yX0_parameter yX0_parameter, Cond.code yX0_parameter cX0_parameter 2 (some .int), Cond.methodLink RL 23 yX0_sense, Cond.instanceMethod yX0_sense, Cond.selects RX0 yX0_sense yX0_sense, Cond.code yX0_sense cX0_sense 3 (some .boolean), Cond.methodLink RX0 54 yX0_isSensor, Cond.static yX0_isSensor, Cond.code yX0_isSensor cX0_isSensor 1 (some .boolean), Cond.methodLink RL 27 yX0_conditioned]
def wsL_law_r3 : List Cond := [Cond.instanceMethod yX0_conditioned, Cond.selects RX0 yX0_conditioned yX0_conditioned, Cond.code yX0_conditioned cX0_conditioned 2 (some .int), Cond.methodLink RL 31 yX0_faulty, Cond.instanceMethod yX0_faulty, Cond.selects RX0 yX0_faulty yX0_faulty, Cond.code yX0_faulty cX0_faulty 2 (some .boolean), Cond.methodLink RL 36 yX0_next, Cond.instanceMethod yX0_next, Cond.selects RX0 yX0_next yX0_next, Cond.code yX0_next cX0_next 1 (some .int), Cond.methodLink RX0 57 yX0_mayLeavePhase, Cond.instanceMethod yX0_mayLeavePhase, Cond.selects RX0 yX0_mayLeavePhase yX0_mayLeavePhase, Cond.code yX0_mayLeavePhase cX0_mayLeavePhase 1 (some .boolean), Cond.fieldLink RX0 92 "BloodCircuitChannels" "steadyTicks" "I", Cond.fieldLink RX0 65 "BloodCircuitChannels" "alarms" "I", Cond.fieldLink RX0 89 "BloodCircuitChannels" "counted" "I", Cond.methodLink RX0 95 yX0_areConsistent, Cond.instanceMethod yX0_areConsistent, Cond.selects RX0 yX0_areConsistent yX0_areConsistent, Cond.code yX0_areConsistent cX0_areConsistent 1 (some .boolean), Cond.methodLink RX0 61 yX0_beginPhase, Cond.instanceMethod yX0_beginPhase]
def wsL_law_r4 : List Cond := [Cond.selects RX0 yX0_beginPhase yX0_beginPhase, Cond.code yX0_beginPhase cX0_beginPhase 2 none, Cond.fieldLink RX0 77 "BloodCircuitChannels" "effective" "I", Cond.fieldLink RX0 80 "BloodCircuitChannels" "accounted" "I", Cond.fieldLink RX0 83 "BloodCircuitChannels" "strokes" "I", Cond.methodLink RL 41 yX0_acknowledge, Cond.instanceMethod yX0_acknowledge, Cond.selects RX0 yX0_acknowledge yX0_acknowledge, Cond.code yX0_acknowledge cX0_acknowledge 1 (some .int), Cond.fieldLink RX0 68 "BloodCircuitChannels" "conditions" "I", Cond.methodLink RL 45 yX0_substitute, Cond.instanceMethod yX0_substitute, Cond.selects RX0 yX0_substitute yX0_substitute, Cond.code yX0_substitute cX0_substitute 2 (some .boolean), Cond.methodLink RL 49 yX0_tick, Cond.instanceMethod yX0_tick, Cond.selects RX0 yX0_tick yX0_tick, Cond.code yX0_tick cX0_tick 3 (some .int), Cond.methodLink RX0 71 yX0_makeTick, Cond.instanceMethod yX0_makeTick, Cond.selects RX0 yX0_makeTick yX0_makeTick, Cond.code yX0_makeTick cX0_makeTick 4 (some .boolean), Cond.fieldLink RX0 74 "BloodCircuitChannels" "outputs" "I", Cond.methodLink RX0 98 yX0_conditionSensors]
def wsL_law_r5 : List Cond := [Cond.instanceMethod yX0_conditionSensors, Cond.selects RX0 yX0_conditionSensors yX0_conditionSensors, Cond.code yX0_conditionSensors cX0_conditionSensors 2 none, Cond.fieldLink RX0 118 "BloodCircuitChannels" "SENSOR_LEAST" "[I", Cond.fieldLink RX0 121 "BloodCircuitChannels" "SENSOR_GREATEST" "[I", Cond.methodLink RX0 101 yX0_countTicksInARow, Cond.instanceMethod yX0_countTicksInARow, Cond.selects RX0 yX0_countTicksInARow yX0_countTicksInARow, Cond.code yX0_countTicksInARow cX0_countTicksInARow 5 none, Cond.fieldLink RX0 130 "BloodCircuitChannels" "arterialOutTicks" "I", Cond.fieldLink RX0 133 "BloodCircuitChannels" "venousOutTicks" "I", Cond.fieldLink RX0 136 "BloodCircuitChannels" "fluidOffTicks" "I", Cond.methodLink RX0 124 yX0_isConnected, Cond.instanceMethod yX0_isConnected, Cond.selects RX0 yX0_isConnected yX0_isConnected, Cond.code yX0_isConnected cX0_isConnected 1 (some .boolean), Cond.methodLink RX0 127 yX0_isFluidOff, Cond.instanceMethod yX0_isFluidOff, Cond.selects RX0 yX0_isFluidOff yX0_isFluidOff, Cond.code yX0_isFluidOff cX0_isFluidOff 1 (some .boolean), Cond.methodLink RX0 139 Lib.Math.abs.name, Cond.static Lib.Math.abs.name, Cond.initialized "java/lang/Math", Cond.code Lib.Math.abs.name Lib.Math.abs.code 1 (some .int)]
def wsL_law_r6 : List Cond := [Cond.methodLink RX0 104 yX0_conditionsNow, Cond.instanceMethod yX0_conditionsNow, Cond.selects RX0 yX0_conditionsNow yX0_conditionsNow, Cond.code yX0_conditionsNow cX0_conditionsNow 1 (some .int), Cond.methodLink RX0 144 yX0_isSomeSensorFaulty, Cond.instanceMethod yX0_isSomeSensorFaulty, Cond.selects RX0 yX0_isSomeSensorFaulty yX0_isSomeSensorFaulty, Cond.code yX0_isSomeSensorFaulty cX0_isSomeSensorFaulty 2 (some .boolean), Cond.methodLink RX0 108 yX0_commandsOfControl, Cond.instanceMethod yX0_commandsOfControl, Cond.selects RX0 yX0_commandsOfControl yX0_commandsOfControl, Cond.code yX0_commandsOfControl cX0_commandsOfControl 6 (some .int), Cond.methodLink RX0 147 yX0_isStrokeWanted, Cond.instanceMethod yX0_isStrokeWanted, Cond.selects RX0 yX0_isStrokeWanted yX0_isStrokeWanted, Cond.code yX0_isStrokeWanted cX0_isStrokeWanted 3 (some .boolean), Cond.constantLong RX0 150 (1000), Cond.methodLink RX0 152 yX0_ticksOfTreatment, Cond.instanceMethod yX0_ticksOfTreatment, Cond.selects RX0 yX0_ticksOfTreatment yX0_ticksOfTreatment, Cond.code yX0_ticksOfTreatment cX0_ticksOfTreatment 1 (some .int), Cond.methodLink RX0 111 yX0_afterProtection, Cond.instanceMethod yX0_afterProtection, Cond.selects RX0 yX0_afterProtection yX0_afterProtection]
def wsL_law_r7 : List Cond := [Cond.code yX0_afterProtection cX0_afterProtection 3 (some .int), Cond.fieldLink RX0 86 "BloodCircuitChannels" "trips" "I", Cond.methodLink RX0 155 yX0_isRawDangerous, Cond.instanceMethod yX0_isRawDangerous, Cond.selects RX0 yX0_isRawDangerous yX0_isRawDangerous, Cond.code yX0_isRawDangerous cX0_isRawDangerous 1 (some .boolean), Cond.methodLink RX0 158 yX0_isStrokeTooMuch, Cond.instanceMethod yX0_isStrokeTooMuch, Cond.selects RX0 yX0_isStrokeTooMuch yX0_isStrokeTooMuch, Cond.code yX0_isStrokeTooMuch cX0_isStrokeTooMuch 1 (some .boolean), Cond.methodLink RX0 115 yX0_countTowardsEnd, Cond.instanceMethod yX0_countTowardsEnd, Cond.selects RX0 yX0_countTowardsEnd yX0_countTowardsEnd, Cond.code yX0_countTowardsEnd cX0_countTowardsEnd 2 none, Cond.methodLink RL 53 yX0_phase, Cond.instanceMethod yX0_phase, Cond.selects RX0 yX0_phase yX0_phase, Cond.code yX0_phase cX0_phase 1 (some .int), Cond.methodLink RL 57 yX0_alarms, Cond.instanceMethod yX0_alarms, Cond.selects RX0 yX0_alarms yX0_alarms, Cond.code yX0_alarms cX0_alarms 1 (some .int), Cond.methodLink RL 61 yX0_conditions, Cond.instanceMethod yX0_conditions]
def wsL_law_r8 : List Cond := [Cond.selects RX0 yX0_conditions yX0_conditions, Cond.code yX0_conditions cX0_conditions 1 (some .int), Cond.methodLink RL 65 yX0_outputs, Cond.instanceMethod yX0_outputs, Cond.selects RX0 yX0_outputs yX0_outputs, Cond.code yX0_outputs cX0_outputs 1 (some .int), Cond.methodLink RL 69 yX0_effective, Cond.instanceMethod yX0_effective, Cond.selects RX0 yX0_effective yX0_effective, Cond.code yX0_effective cX0_effective 1 (some .int), Cond.methodLink RL 73 yX0_accounted, Cond.instanceMethod yX0_accounted, Cond.selects RX0 yX0_accounted yX0_accounted, Cond.code yX0_accounted cX0_accounted 1 (some .int), Cond.methodLink RL 77 yX0_strokes, Cond.instanceMethod yX0_strokes, Cond.selects RX0 yX0_strokes yX0_strokes, Cond.code yX0_strokes cX0_strokes 1 (some .int), Cond.methodLink RL 81 yX0_trips, Cond.instanceMethod yX0_trips, Cond.selects RX0 yX0_trips yX0_trips, Cond.code yX0_trips cX0_trips 1 (some .int), Cond.methodLink RL 85 yX0_counted, Cond.instanceMethod yX0_counted]
def wsL_law_r9 : List Cond := [Cond.selects RX0 yX0_counted yX0_counted, Cond.code yX0_counted cX0_counted 1 (some .int)]
def wsL_law : List Cond := (wsL_law_r1 ++ (wsL_law_r2 ++ (wsL_law_r3 ++ (wsL_law_r4 ++ (wsL_law_r5 ++ (wsL_law_r6 ++ (wsL_law_r7 ++ (wsL_law_r8 ++ wsL_law_r9)))))))) ++ wsX00 ++ ([] : List Cond)
set_option maxRecDepth 20000 in
theorem wsL_law_in : ∀ w ∈ wsL_law, w ∈ lw_tbl := fun w h => (goodIn_p wsL_law [36, 39, 110, 113, 120, 124, 128, 131, 135, 139, 143, 147, 151, 155, 159, 163, 167, 171, 175, 183, 187, 191, 194, 198, 202, 206, 210, 215, 219, 223, 227, 231, 235, 239, 243, 247, 251, 255, 259, 263, 267] (by decide +kernel) (by decide +kernel) w h).1
theorem inlX0 : ∀ w ∈ wsX00, w ∈ wsL_law := fun _ h => List.mem_append_left _ (List.mem_append_right _ h)
theorem inX0 : ∀ w ∈ wsX00, w ∈ lw_tbl := fun w h => wsL_law_in w (inlX0 w h)
theorem inX1 : ∀ w ∈ wsX10, w ∈ lw_tbl := by decide +kernel
theorem inJx8e188 : ∀ w ∈ wsJx8e1880, w ∈ lw_tbl := by decide +kernel
theorem inJ9 : ∀ w ∈ wsJ90, w ∈ lw_tbl := by decide +kernel
theorem dX0_init_0 : decode cX0_init 0 = .ok (.aload_n 0, 1) := by decide +kernel
theorem dX0_init_1 : decode cX0_init 1 = .ok (.invokespecial 3, 3) := by decide +kernel
theorem dX0_init_4 : decode cX0_init 4 = .ok (.aload_n 0, 1) := by decide +kernel
theorem dX0_init_5 : decode cX0_init 5 = .ok (.getstatic 9, 3) := by decide +kernel
theorem dX0_init_8 : decode cX0_init 8 = .ok (.invokevirtual 13, 3) := by decide +kernel
theorem dX0_init_11 : decode cX0_init 11 = .ok (.checkcast 14, 3) := by decide +kernel
theorem dX0_init_14 : decode cX0_init 14 = .ok (.putfield 18, 3) := by decide +kernel
theorem dX0_init_17 : decode cX0_init 17 = .ok (.aload_n 0, 1) := by decide +kernel
theorem dX0_init_18 : decode cX0_init 18 = .ok (.getstatic 21, 3) := by decide +kernel
theorem dX0_init_21 : decode cX0_init 21 = .ok (.invokevirtual 13, 3) := by decide +kernel
theorem dX0_init_24 : decode cX0_init 24 = .ok (.checkcast 14, 3) := by decide +kernel
theorem dX0_init_27 : decode cX0_init 27 = .ok (.putfield 24, 3) := by decide +kernel
theorem dX0_init_30 : decode cX0_init 30 = .ok (.aload_n 0, 1) := by decide +kernel
theorem dX0_init_31 : decode cX0_init 31 = .ok (.getstatic 21, 3) := by decide +kernel
theorem dX0_init_34 : decode cX0_init 34 = .ok (.invokevirtual 13, 3) := by decide +kernel
theorem dX0_init_37 : decode cX0_init 37 = .ok (.checkcast 14, 3) := by decide +kernel
theorem dX0_init_40 : decode cX0_init 40 = .ok (.putfield 27, 3) := by decide +kernel
theorem dX0_init_43 : decode cX0_init 43 = .ok (.aload_n 0, 1) := by decide +kernel
theorem dX0_init_44 : decode cX0_init 44 = .ok (.bipush 6, 2) := by decide +kernel
theorem dX0_init_46 : decode cX0_init 46 = .ok (.newarray .int, 2) := by decide +kernel
theorem dX0_init_48 : decode cX0_init 48 = .ok (.putfield 30, 3) := by decide +kernel
theorem dX0_init_51 : decode cX0_init 51 = .ok (.aload_n 0, 1) := by decide +kernel
theorem dX0_init_52 : decode cX0_init 52 = .ok (.iconst 0, 1) := by decide +kernel
theorem dX0_init_53 : decode cX0_init 53 = .ok (.putfield 33, 3) := by decide +kernel
theorem dX0_init_56 : decode cX0_init 56 = .ok (.aload_n 0, 1) := by decide +kernel
theorem dX0_init_57 : decode cX0_init 57 = .ok (.iconst (-1), 1) := by decide +kernel
theorem dX0_init_58 : decode cX0_init 58 = .ok (.putfield 37, 3) := by decide +kernel
theorem dX0_init_61 : decode cX0_init 61 = .ok (.return_, 1) := by decide +kernel
set_option maxRecDepth 20000 in
theorem ggX0_set_X0_isParameter : GoodIn wsX0_set wsX0_isParameter := goodIn_r _ [8] (by decide +kernel) (by decide +kernel)
set_option maxRecDepth 20000 in
theorem gX0_set_X0_isParameter : GoodIn wsX0_set (va_wsS RX0 40 yX0_isParameter wsX0_isParameter) := goodIn_app (goodIn_of _ (by decide +kernel)) ggX0_set_X0_isParameter
set_option maxRecDepth 20000 in
theorem ggX0_set_X0_isOutside : GoodIn wsX0_set wsX0_isOutside := goodIn_r _ [11] (by decide +kernel) (by decide +kernel)
set_option maxRecDepth 20000 in
theorem gX0_set_X0_isOutside : GoodIn wsX0_set (va_wsS RX0 50 yX0_isOutside wsX0_isOutside) := goodIn_app (goodIn_of _ (by decide +kernel)) ggX0_set_X0_isOutside
theorem dX0_set_0 : decode cX0_set 0 = .ok (.iload_n 1, 1) := by decide +kernel
theorem dX0_set_1 : decode cX0_set 1 = .ok (.invokestatic 40, 3) := by decide +kernel
theorem dX0_set_4 : decode cX0_set 4 = .ok (.ifCond .eq 27, 3) := by decide +kernel
theorem dX0_set_7 : decode cX0_set 7 = .ok (.aload_n 0, 1) := by decide +kernel
theorem dX0_set_8 : decode cX0_set 8 = .ok (.getfield 33, 3) := by decide +kernel
theorem dX0_set_11 : decode cX0_set 11 = .ok (.ifCond .ne 20, 3) := by decide +kernel
theorem dX0_set_14 : decode cX0_set 14 = .ok (.iload_n 2, 1) := by decide +kernel
theorem dX0_set_15 : decode cX0_set 15 = .ok (.getstatic 44, 3) := by decide +kernel
theorem dX0_set_18 : decode cX0_set 18 = .ok (.iload_n 1, 1) := by decide +kernel
theorem dX0_set_19 : decode cX0_set 19 = .ok (.iaload, 1) := by decide +kernel
theorem dX0_set_20 : decode cX0_set 20 = .ok (.getstatic 47, 3) := by decide +kernel
theorem dX0_set_23 : decode cX0_set 23 = .ok (.iload_n 1, 1) := by decide +kernel
theorem dX0_set_24 : decode cX0_set 24 = .ok (.iaload, 1) := by decide +kernel
theorem dX0_set_25 : decode cX0_set 25 = .ok (.invokestatic 50, 3) := by decide +kernel
theorem dX0_set_28 : decode cX0_set 28 = .ok (.ifCond .eq 5, 3) := by decide +kernel
theorem dX0_set_31 : decode cX0_set 31 = .ok (.iconst 0, 1) := by decide +kernel
theorem dX0_set_32 : decode cX0_set 32 = .ok (.ireturn, 1) := by decide +kernel
theorem dX0_set_33 : decode cX0_set 33 = .ok (.aload_n 0, 1) := by decide +kernel
theorem dX0_set_34 : decode cX0_set 34 = .ok (.getfield 18, 3) := by decide +kernel
theorem dX0_set_37 : decode cX0_set 37 = .ok (.iload_n 1, 1) := by decide +kernel
theorem dX0_set_38 : decode cX0_set 38 = .ok (.iload_n 2, 1) := by decide +kernel
theorem dX0_set_39 : decode cX0_set 39 = .ok (.iastore, 1) := by decide +kernel
theorem dX0_set_40 : decode cX0_set 40 = .ok (.iconst 1, 1) := by decide +kernel
theorem dX0_set_41 : decode cX0_set 41 = .ok (.ireturn, 1) := by decide +kernel
set_option maxRecDepth 20000 in
theorem ggX0_parameter_X0_isParameter : GoodIn wsX0_parameter wsX0_isParameter := goodIn_r _ [5] (by decide +kernel) (by decide +kernel)
set_option maxRecDepth 20000 in
theorem gX0_parameter_X0_isParameter : GoodIn wsX0_parameter (va_wsS RX0 40 yX0_isParameter wsX0_isParameter) := goodIn_app (goodIn_of _ (by decide +kernel)) ggX0_parameter_X0_isParameter
theorem dX0_parameter_0 : decode cX0_parameter 0 = .ok (.iload_n 1, 1) := by decide +kernel
theorem dX0_parameter_1 : decode cX0_parameter 1 = .ok (.invokestatic 40, 3) := by decide +kernel
theorem dX0_parameter_4 : decode cX0_parameter 4 = .ok (.ifCond .eq 12, 3) := by decide +kernel
theorem dX0_parameter_7 : decode cX0_parameter 7 = .ok (.aload_n 0, 1) := by decide +kernel
theorem dX0_parameter_8 : decode cX0_parameter 8 = .ok (.getfield 18, 3) := by decide +kernel
theorem dX0_parameter_11 : decode cX0_parameter 11 = .ok (.iload_n 1, 1) := by decide +kernel
theorem dX0_parameter_12 : decode cX0_parameter 12 = .ok (.iaload, 1) := by decide +kernel
theorem dX0_parameter_13 : decode cX0_parameter 13 = .ok (.goto 4, 3) := by decide +kernel
theorem dX0_parameter_16 : decode cX0_parameter 16 = .ok (.iconst 0, 1) := by decide +kernel
theorem dX0_parameter_17 : decode cX0_parameter 17 = .ok (.ireturn, 1) := by decide +kernel
set_option maxRecDepth 20000 in
theorem ggX0_sense_X0_isSensor : GoodIn wsX0_sense wsX0_isSensor := goodIn_r _ [5] (by decide +kernel) (by decide +kernel)
set_option maxRecDepth 20000 in
theorem gX0_sense_X0_isSensor : GoodIn wsX0_sense (va_wsS RX0 54 yX0_isSensor wsX0_isSensor) := goodIn_app (goodIn_of _ (by decide +kernel)) ggX0_sense_X0_isSensor
theorem dX0_sense_0 : decode cX0_sense 0 = .ok (.iload_n 1, 1) := by decide +kernel
theorem dX0_sense_1 : decode cX0_sense 1 = .ok (.invokestatic 54, 3) := by decide +kernel
theorem dX0_sense_4 : decode cX0_sense 4 = .ok (.ifCond .ne 5, 3) := by decide +kernel
theorem dX0_sense_7 : decode cX0_sense 7 = .ok (.iconst 0, 1) := by decide +kernel
theorem dX0_sense_8 : decode cX0_sense 8 = .ok (.ireturn, 1) := by decide +kernel
theorem dX0_sense_9 : decode cX0_sense 9 = .ok (.aload_n 0, 1) := by decide +kernel
theorem dX0_sense_10 : decode cX0_sense 10 = .ok (.getfield 24, 3) := by decide +kernel
theorem dX0_sense_13 : decode cX0_sense 13 = .ok (.iload_n 1, 1) := by decide +kernel
theorem dX0_sense_14 : decode cX0_sense 14 = .ok (.iload_n 2, 1) := by decide +kernel
theorem dX0_sense_15 : decode cX0_sense 15 = .ok (.iastore, 1) := by decide +kernel
theorem dX0_sense_16 : decode cX0_sense 16 = .ok (.iconst 1, 1) := by decide +kernel
theorem dX0_sense_17 : decode cX0_sense 17 = .ok (.ireturn, 1) := by decide +kernel
set_option maxRecDepth 20000 in
theorem ggX0_conditioned_X0_isSensor : GoodIn wsX0_conditioned wsX0_isSensor := goodIn_r _ [5] (by decide +kernel) (by decide +kernel)
set_option maxRecDepth 20000 in
theorem gX0_conditioned_X0_isSensor : GoodIn wsX0_conditioned (va_wsS RX0 54 yX0_isSensor wsX0_isSensor) := goodIn_app (goodIn_of _ (by decide +kernel)) ggX0_conditioned_X0_isSensor
theorem dX0_conditioned_0 : decode cX0_conditioned 0 = .ok (.iload_n 1, 1) := by decide +kernel
theorem dX0_conditioned_1 : decode cX0_conditioned 1 = .ok (.invokestatic 54, 3) := by decide +kernel
theorem dX0_conditioned_4 : decode cX0_conditioned 4 = .ok (.ifCond .eq 12, 3) := by decide +kernel
theorem dX0_conditioned_7 : decode cX0_conditioned 7 = .ok (.aload_n 0, 1) := by decide +kernel
theorem dX0_conditioned_8 : decode cX0_conditioned 8 = .ok (.getfield 27, 3) := by decide +kernel
theorem dX0_conditioned_11 : decode cX0_conditioned 11 = .ok (.iload_n 1, 1) := by decide +kernel
theorem dX0_conditioned_12 : decode cX0_conditioned 12 = .ok (.iaload, 1) := by decide +kernel
theorem dX0_conditioned_13 : decode cX0_conditioned 13 = .ok (.goto 4, 3) := by decide +kernel
theorem dX0_conditioned_16 : decode cX0_conditioned 16 = .ok (.iconst 0, 1) := by decide +kernel
theorem dX0_conditioned_17 : decode cX0_conditioned 17 = .ok (.ireturn, 1) := by decide +kernel
set_option maxRecDepth 20000 in
theorem ggX0_faulty_X0_isSensor : GoodIn wsX0_faulty wsX0_isSensor := goodIn_r _ [5] (by decide +kernel) (by decide +kernel)
set_option maxRecDepth 20000 in
theorem gX0_faulty_X0_isSensor : GoodIn wsX0_faulty (va_wsS RX0 54 yX0_isSensor wsX0_isSensor) := goodIn_app (goodIn_of _ (by decide +kernel)) ggX0_faulty_X0_isSensor
theorem dX0_faulty_0 : decode cX0_faulty 0 = .ok (.iload_n 1, 1) := by decide +kernel
theorem dX0_faulty_1 : decode cX0_faulty 1 = .ok (.invokestatic 54, 3) := by decide +kernel
theorem dX0_faulty_4 : decode cX0_faulty 4 = .ok (.ifCond .eq 17, 3) := by decide +kernel
theorem dX0_faulty_7 : decode cX0_faulty 7 = .ok (.aload_n 0, 1) := by decide +kernel
theorem dX0_faulty_8 : decode cX0_faulty 8 = .ok (.getfield 30, 3) := by decide +kernel
theorem dX0_faulty_11 : decode cX0_faulty 11 = .ok (.iload_n 1, 1) := by decide +kernel
theorem dX0_faulty_12 : decode cX0_faulty 12 = .ok (.iaload, 1) := by decide +kernel
theorem dX0_faulty_13 : decode cX0_faulty 13 = .ok (.iconst 3, 1) := by decide +kernel
theorem dX0_faulty_14 : decode cX0_faulty 14 = .ok (.if_icmp .lt 7, 3) := by decide +kernel
theorem dX0_faulty_17 : decode cX0_faulty 17 = .ok (.iconst 1, 1) := by decide +kernel
theorem dX0_faulty_18 : decode cX0_faulty 18 = .ok (.goto 4, 3) := by decide +kernel
theorem dX0_faulty_21 : decode cX0_faulty 21 = .ok (.iconst 0, 1) := by decide +kernel
theorem dX0_faulty_22 : decode cX0_faulty 22 = .ok (.ireturn, 1) := by decide +kernel
set_option maxRecDepth 20000 in
theorem ggX0_next_X0_mayLeavePhase : GoodIn wsX0_next wsX0_mayLeavePhase := goodIn_r _ [6, 1, 7, 8, 9, 10, 11, 12, 5, 13, 14, 22, 23, 24, 25, 26, 27, 28, 29, 30, 31, 32, 33, 34, 35, 36, 37, 38, 39] (by decide +kernel) (by decide +kernel)
set_option maxRecDepth 20000 in
theorem gX0_next_X0_mayLeavePhase : GoodIn wsX0_next (wsV RX0 57 RX0 yX0_mayLeavePhase wsX0_mayLeavePhase) := goodIn_app (goodIn_of _ (by decide +kernel)) ggX0_next_X0_mayLeavePhase
set_option maxRecDepth 20000 in
theorem ggX0_next_X0_beginPhase : GoodIn wsX0_next wsX0_beginPhase := goodIn_r _ [18, 1, 9, 19, 20, 21, 22, 23, 24, 25, 26, 27, 28, 29, 30, 31, 32, 33, 34, 35, 36, 37, 38, 39] (by decide +kernel) (by decide +kernel)
set_option maxRecDepth 20000 in
theorem gX0_next_X0_beginPhase : GoodIn wsX0_next (wsV RX0 61 RX0 yX0_beginPhase wsX0_beginPhase) := goodIn_app (goodIn_of _ (by decide +kernel)) ggX0_next_X0_beginPhase
theorem dX0_next_0 : decode cX0_next 0 = .ok (.aload_n 0, 1) := by decide +kernel
theorem dX0_next_1 : decode cX0_next 1 = .ok (.invokevirtual 57, 3) := by decide +kernel
theorem dX0_next_4 : decode cX0_next 4 = .ok (.ifCond .ne 5, 3) := by decide +kernel
theorem dX0_next_7 : decode cX0_next 7 = .ok (.iconst (-1), 1) := by decide +kernel
theorem dX0_next_8 : decode cX0_next 8 = .ok (.ireturn, 1) := by decide +kernel
theorem dX0_next_9 : decode cX0_next 9 = .ok (.aload_n 0, 1) := by decide +kernel
theorem dX0_next_10 : decode cX0_next 10 = .ok (.aload_n 0, 1) := by decide +kernel
theorem dX0_next_11 : decode cX0_next 11 = .ok (.getfield 33, 3) := by decide +kernel
theorem dX0_next_14 : decode cX0_next 14 = .ok (.bipush 6, 2) := by decide +kernel
theorem dX0_next_16 : decode cX0_next 16 = .ok (.if_icmp .ne 7, 3) := by decide +kernel
theorem dX0_next_19 : decode cX0_next 19 = .ok (.iconst 0, 1) := by decide +kernel
theorem dX0_next_20 : decode cX0_next 20 = .ok (.goto 9, 3) := by decide +kernel
theorem dX0_next_23 : decode cX0_next 23 = .ok (.aload_n 0, 1) := by decide +kernel
theorem dX0_next_24 : decode cX0_next 24 = .ok (.getfield 33, 3) := by decide +kernel
theorem dX0_next_27 : decode cX0_next 27 = .ok (.iconst 1, 1) := by decide +kernel
theorem dX0_next_28 : decode cX0_next 28 = .ok (.iadd, 1) := by decide +kernel
theorem dX0_next_29 : decode cX0_next 29 = .ok (.invokevirtual 61, 3) := by decide +kernel
theorem dX0_next_32 : decode cX0_next 32 = .ok (.aload_n 0, 1) := by decide +kernel
theorem dX0_next_33 : decode cX0_next 33 = .ok (.getfield 33, 3) := by decide +kernel
theorem dX0_next_36 : decode cX0_next 36 = .ok (.ireturn, 1) := by decide +kernel
theorem dX0_acknowledge_0 : decode cX0_acknowledge 0 = .ok (.aload_n 0, 1) := by decide +kernel
theorem dX0_acknowledge_1 : decode cX0_acknowledge 1 = .ok (.dup, 1) := by decide +kernel
theorem dX0_acknowledge_2 : decode cX0_acknowledge 2 = .ok (.getfield 65, 3) := by decide +kernel
theorem dX0_acknowledge_5 : decode cX0_acknowledge 5 = .ok (.aload_n 0, 1) := by decide +kernel
theorem dX0_acknowledge_6 : decode cX0_acknowledge 6 = .ok (.getfield 68, 3) := by decide +kernel
theorem dX0_acknowledge_9 : decode cX0_acknowledge 9 = .ok (.iand, 1) := by decide +kernel
theorem dX0_acknowledge_10 : decode cX0_acknowledge 10 = .ok (.putfield 65, 3) := by decide +kernel
theorem dX0_acknowledge_13 : decode cX0_acknowledge 13 = .ok (.aload_n 0, 1) := by decide +kernel
theorem dX0_acknowledge_14 : decode cX0_acknowledge 14 = .ok (.getfield 65, 3) := by decide +kernel
theorem dX0_acknowledge_17 : decode cX0_acknowledge 17 = .ok (.ireturn, 1) := by decide +kernel
set_option maxRecDepth 20000 in
theorem ggX0_substitute_X0_isOutside : GoodIn wsX0_substitute wsX0_isOutside := goodIn_r _ [5] (by decide +kernel) (by decide +kernel)
set_option maxRecDepth 20000 in
theorem gX0_substitute_X0_isOutside : GoodIn wsX0_substitute (va_wsS RX0 50 yX0_isOutside wsX0_isOutside) := goodIn_app (goodIn_of _ (by decide +kernel)) ggX0_substitute_X0_isOutside
theorem dX0_substitute_0 : decode cX0_substitute 0 = .ok (.iload_n 1, 1) := by decide +kernel
theorem dX0_substitute_1 : decode cX0_substitute 1 = .ok (.iconst (-1), 1) := by decide +kernel
theorem dX0_substitute_2 : decode cX0_substitute 2 = .ok (.bipush 15, 2) := by decide +kernel
theorem dX0_substitute_4 : decode cX0_substitute 4 = .ok (.invokestatic 50, 3) := by decide +kernel
theorem dX0_substitute_7 : decode cX0_substitute 7 = .ok (.ifCond .eq 5, 3) := by decide +kernel
theorem dX0_substitute_10 : decode cX0_substitute 10 = .ok (.iconst 0, 1) := by decide +kernel
theorem dX0_substitute_11 : decode cX0_substitute 11 = .ok (.ireturn, 1) := by decide +kernel
theorem dX0_substitute_12 : decode cX0_substitute 12 = .ok (.aload_n 0, 1) := by decide +kernel
theorem dX0_substitute_13 : decode cX0_substitute 13 = .ok (.iload_n 1, 1) := by decide +kernel
theorem dX0_substitute_14 : decode cX0_substitute 14 = .ok (.putfield 37, 3) := by decide +kernel
theorem dX0_substitute_17 : decode cX0_substitute 17 = .ok (.iconst 1, 1) := by decide +kernel
theorem dX0_substitute_18 : decode cX0_substitute 18 = .ok (.ireturn, 1) := by decide +kernel
set_option maxRecDepth 20000 in
theorem ggX0_tick_X0_isOutside : GoodIn wsX0_tick wsX0_isOutside := goodIn_r _ [4] (by decide +kernel) (by decide +kernel)
set_option maxRecDepth 20000 in
theorem gX0_tick_X0_isOutside : GoodIn wsX0_tick (va_wsS RX0 50 yX0_isOutside wsX0_isOutside) := goodIn_app (goodIn_of _ (by decide +kernel)) ggX0_tick_X0_isOutside
set_option maxRecDepth 20000 in
theorem ggX0_tick_X0_makeTick : GoodIn wsX0_tick wsX0_makeTick := goodIn_r _ [8, 9, 10, 11, 12, 13, 14, 15, 16, 17, 3, 18, 19, 20, 21, 22, 23, 1, 2, 4, 24, 25, 26, 27, 28, 29, 30, 31, 32, 33, 34, 35, 36, 37, 38, 39, 40, 41, 42, 43, 44, 45, 46, 47, 48, 49, 50, 51, 52, 53, 54, 55, 56, 57, 58, 59, 60, 61, 62, 63, 64, 65, 66, 67, 68, 69, 70, 71, 72, 73, 74, 75, 76, 77, 78, 79, 80, 81, 82, 83, 84, 85, 86, 87, 88, 89, 90, 91, 92, 93, 94, 95, 96, 97, 98, 99, 100, 101, 102, 103, 104, 105, 106, 107] (by decide +kernel) (by decide +kernel)
set_option maxRecDepth 20000 in
theorem gX0_tick_X0_makeTick : GoodIn wsX0_tick (wsV RX0 71 RX0 yX0_makeTick wsX0_makeTick) := goodIn_app (goodIn_of _ (by decide +kernel)) ggX0_tick_X0_makeTick
theorem dX0_tick_0 : decode cX0_tick 0 = .ok (.iload_n 1, 1) := by decide +kernel
theorem dX0_tick_1 : decode cX0_tick 1 = .ok (.iconst 1, 1) := by decide +kernel
theorem dX0_tick_2 : decode cX0_tick 2 = .ok (.sipush 600, 3) := by decide +kernel
theorem dX0_tick_5 : decode cX0_tick 5 = .ok (.invokestatic 50, 3) := by decide +kernel
theorem dX0_tick_8 : decode cX0_tick 8 = .ok (.ifCond .eq 5, 3) := by decide +kernel
theorem dX0_tick_11 : decode cX0_tick 11 = .ok (.iconst (-1), 1) := by decide +kernel
theorem dX0_tick_12 : decode cX0_tick 12 = .ok (.ireturn, 1) := by decide +kernel
theorem dX0_tick_13 : decode cX0_tick 13 = .ok (.iconst 1, 1) := by decide +kernel
theorem dX0_tick_14 : decode cX0_tick 14 = .ok (.istore_n 2, 1) := by decide +kernel
theorem dX0_tick_15 : decode cX0_tick 15 = .ok (.iload_n 2, 1) := by decide +kernel
theorem dX0_tick_16 : decode cX0_tick 16 = .ok (.iload_n 1, 1) := by decide +kernel
theorem dX0_tick_17 : decode cX0_tick 17 = .ok (.if_icmp .gt 18, 3) := by decide +kernel
theorem dX0_tick_20 : decode cX0_tick 20 = .ok (.aload_n 0, 1) := by decide +kernel
theorem dX0_tick_21 : decode cX0_tick 21 = .ok (.invokevirtual 71, 3) := by decide +kernel
theorem dX0_tick_24 : decode cX0_tick 24 = .ok (.ifCond .eq 5, 3) := by decide +kernel
theorem dX0_tick_27 : decode cX0_tick 27 = .ok (.iload_n 2, 1) := by decide +kernel
theorem dX0_tick_28 : decode cX0_tick 28 = .ok (.ireturn, 1) := by decide +kernel
theorem dX0_tick_29 : decode cX0_tick 29 = .ok (.iinc 2 1, 3) := by decide +kernel
theorem dX0_tick_32 : decode cX0_tick 32 = .ok (.goto (-17), 3) := by decide +kernel
theorem dX0_tick_35 : decode cX0_tick 35 = .ok (.iload_n 1, 1) := by decide +kernel
theorem dX0_tick_36 : decode cX0_tick 36 = .ok (.ireturn, 1) := by decide +kernel
theorem dX0_phase_0 : decode cX0_phase 0 = .ok (.aload_n 0, 1) := by decide +kernel
theorem dX0_phase_1 : decode cX0_phase 1 = .ok (.getfield 33, 3) := by decide +kernel
theorem dX0_phase_4 : decode cX0_phase 4 = .ok (.ireturn, 1) := by decide +kernel
theorem dX0_alarms_0 : decode cX0_alarms 0 = .ok (.aload_n 0, 1) := by decide +kernel
theorem dX0_alarms_1 : decode cX0_alarms 1 = .ok (.getfield 65, 3) := by decide +kernel
theorem dX0_alarms_4 : decode cX0_alarms 4 = .ok (.ireturn, 1) := by decide +kernel
theorem dX0_conditions_0 : decode cX0_conditions 0 = .ok (.aload_n 0, 1) := by decide +kernel
theorem dX0_conditions_1 : decode cX0_conditions 1 = .ok (.getfield 68, 3) := by decide +kernel
theorem dX0_conditions_4 : decode cX0_conditions 4 = .ok (.ireturn, 1) := by decide +kernel
theorem dX0_outputs_0 : decode cX0_outputs 0 = .ok (.aload_n 0, 1) := by decide +kernel
theorem dX0_outputs_1 : decode cX0_outputs 1 = .ok (.getfield 74, 3) := by decide +kernel
theorem dX0_outputs_4 : decode cX0_outputs 4 = .ok (.ireturn, 1) := by decide +kernel
theorem dX0_effective_0 : decode cX0_effective 0 = .ok (.aload_n 0, 1) := by decide +kernel
theorem dX0_effective_1 : decode cX0_effective 1 = .ok (.getfield 77, 3) := by decide +kernel
theorem dX0_effective_4 : decode cX0_effective 4 = .ok (.ireturn, 1) := by decide +kernel
theorem dX0_accounted_0 : decode cX0_accounted 0 = .ok (.aload_n 0, 1) := by decide +kernel
theorem dX0_accounted_1 : decode cX0_accounted 1 = .ok (.getfield 80, 3) := by decide +kernel
theorem dX0_accounted_4 : decode cX0_accounted 4 = .ok (.ireturn, 1) := by decide +kernel
theorem dX0_strokes_0 : decode cX0_strokes 0 = .ok (.aload_n 0, 1) := by decide +kernel
theorem dX0_strokes_1 : decode cX0_strokes 1 = .ok (.getfield 83, 3) := by decide +kernel
theorem dX0_strokes_4 : decode cX0_strokes 4 = .ok (.ireturn, 1) := by decide +kernel
theorem dX0_trips_0 : decode cX0_trips 0 = .ok (.aload_n 0, 1) := by decide +kernel
theorem dX0_trips_1 : decode cX0_trips 1 = .ok (.getfield 86, 3) := by decide +kernel
theorem dX0_trips_4 : decode cX0_trips 4 = .ok (.ireturn, 1) := by decide +kernel
theorem dX0_counted_0 : decode cX0_counted 0 = .ok (.aload_n 0, 1) := by decide +kernel
theorem dX0_counted_1 : decode cX0_counted 1 = .ok (.getfield 89, 3) := by decide +kernel
theorem dX0_counted_4 : decode cX0_counted 4 = .ok (.ireturn, 1) := by decide +kernel
theorem dX0_isParameter_0 : decode cX0_isParameter 0 = .ok (.iload_n 0, 1) := by decide +kernel
theorem dX0_isParameter_1 : decode cX0_isParameter 1 = .ok (.ifCond .lt 13, 3) := by decide +kernel
theorem dX0_isParameter_4 : decode cX0_isParameter 4 = .ok (.iload_n 0, 1) := by decide +kernel
theorem dX0_isParameter_5 : decode cX0_isParameter 5 = .ok (.bipush 10, 2) := by decide +kernel
theorem dX0_isParameter_7 : decode cX0_isParameter 7 = .ok (.if_icmp .ge 7, 3) := by decide +kernel
theorem dX0_isParameter_10 : decode cX0_isParameter 10 = .ok (.iconst 1, 1) := by decide +kernel
theorem dX0_isParameter_11 : decode cX0_isParameter 11 = .ok (.goto 4, 3) := by decide +kernel
theorem dX0_isParameter_14 : decode cX0_isParameter 14 = .ok (.iconst 0, 1) := by decide +kernel
theorem dX0_isParameter_15 : decode cX0_isParameter 15 = .ok (.ireturn, 1) := by decide +kernel
theorem dX0_isSensor_0 : decode cX0_isSensor 0 = .ok (.iload_n 0, 1) := by decide +kernel
theorem dX0_isSensor_1 : decode cX0_isSensor 1 = .ok (.ifCond .lt 13, 3) := by decide +kernel
theorem dX0_isSensor_4 : decode cX0_isSensor 4 = .ok (.iload_n 0, 1) := by decide +kernel
theorem dX0_isSensor_5 : decode cX0_isSensor 5 = .ok (.bipush 6, 2) := by decide +kernel
theorem dX0_isSensor_7 : decode cX0_isSensor 7 = .ok (.if_icmp .ge 7, 3) := by decide +kernel
theorem dX0_isSensor_10 : decode cX0_isSensor 10 = .ok (.iconst 1, 1) := by decide +kernel
theorem dX0_isSensor_11 : decode cX0_isSensor 11 = .ok (.goto 4, 3) := by decide +kernel
theorem dX0_isSensor_14 : decode cX0_isSensor 14 = .ok (.iconst 0, 1) := by decide +kernel
theorem dX0_isSensor_15 : decode cX0_isSensor 15 = .ok (.ireturn, 1) := by decide +kernel
theorem dX0_isOutside_0 : decode cX0_isOutside 0 = .ok (.iload_n 0, 1) := by decide +kernel
theorem dX0_isOutside_1 : decode cX0_isOutside 1 = .ok (.iload_n 1, 1) := by decide +kernel
theorem dX0_isOutside_2 : decode cX0_isOutside 2 = .ok (.if_icmp .lt 8, 3) := by decide +kernel
theorem dX0_isOutside_5 : decode cX0_isOutside 5 = .ok (.iload_n 0, 1) := by decide +kernel
theorem dX0_isOutside_6 : decode cX0_isOutside 6 = .ok (.iload_n 2, 1) := by decide +kernel
theorem dX0_isOutside_7 : decode cX0_isOutside 7 = .ok (.if_icmp .le 7, 3) := by decide +kernel
theorem dX0_isOutside_10 : decode cX0_isOutside 10 = .ok (.iconst 1, 1) := by decide +kernel
theorem dX0_isOutside_11 : decode cX0_isOutside 11 = .ok (.goto 4, 3) := by decide +kernel
theorem dX0_isOutside_14 : decode cX0_isOutside 14 = .ok (.iconst 0, 1) := by decide +kernel
theorem dX0_isOutside_15 : decode cX0_isOutside 15 = .ok (.ireturn, 1) := by decide +kernel
set_option maxRecDepth 20000 in
theorem ggX0_mayLeavePhase_X0_areConsistent : GoodIn wsX0_mayLeavePhase wsX0_areConsistent := goodIn_r _ [9, 10, 11, 12, 13, 14, 15, 16, 17, 18, 19, 20, 21, 22, 23, 24, 25, 26, 27, 28] (by decide +kernel) (by decide +kernel)
set_option maxRecDepth 20000 in
theorem gX0_mayLeavePhase_X0_areConsistent : GoodIn wsX0_mayLeavePhase (wsV RX0 95 RX0 yX0_areConsistent wsX0_areConsistent) := goodIn_app (goodIn_of _ (by decide +kernel)) ggX0_mayLeavePhase_X0_areConsistent
theorem dX0_mayLeavePhase_0 : decode cX0_mayLeavePhase 0 = .ok (.aload_n 0, 1) := by decide +kernel
theorem dX0_mayLeavePhase_1 : decode cX0_mayLeavePhase 1 = .ok (.getfield 33, 3) := by decide +kernel
theorem dX0_mayLeavePhase_4 : decode cX0_mayLeavePhase 4 = .ok (.tableswitch 127 0 5 #[40, 69, 84, 127, 97, 112], 40) := by decide +kernel
theorem dX0_mayLeavePhase_44 : decode cX0_mayLeavePhase 44 = .ok (.aload_n 0, 1) := by decide +kernel
theorem dX0_mayLeavePhase_45 : decode cX0_mayLeavePhase 45 = .ok (.invokevirtual 95, 3) := by decide +kernel
theorem dX0_mayLeavePhase_48 : decode cX0_mayLeavePhase 48 = .ok (.ifCond .eq 23, 3) := by decide +kernel
theorem dX0_mayLeavePhase_51 : decode cX0_mayLeavePhase 51 = .ok (.aload_n 0, 1) := by decide +kernel
theorem dX0_mayLeavePhase_52 : decode cX0_mayLeavePhase 52 = .ok (.getfield 92, 3) := by decide +kernel
theorem dX0_mayLeavePhase_55 : decode cX0_mayLeavePhase 55 = .ok (.bipush 20, 2) := by decide +kernel
theorem dX0_mayLeavePhase_57 : decode cX0_mayLeavePhase 57 = .ok (.if_icmp .lt 14, 3) := by decide +kernel
theorem dX0_mayLeavePhase_60 : decode cX0_mayLeavePhase 60 = .ok (.aload_n 0, 1) := by decide +kernel
theorem dX0_mayLeavePhase_61 : decode cX0_mayLeavePhase 61 = .ok (.getfield 65, 3) := by decide +kernel
theorem dX0_mayLeavePhase_64 : decode cX0_mayLeavePhase 64 = .ok (.ifCond .ne 7, 3) := by decide +kernel
theorem dX0_mayLeavePhase_67 : decode cX0_mayLeavePhase 67 = .ok (.iconst 1, 1) := by decide +kernel
theorem dX0_mayLeavePhase_68 : decode cX0_mayLeavePhase 68 = .ok (.goto 4, 3) := by decide +kernel
theorem dX0_mayLeavePhase_71 : decode cX0_mayLeavePhase 71 = .ok (.iconst 0, 1) := by decide +kernel
theorem dX0_mayLeavePhase_72 : decode cX0_mayLeavePhase 72 = .ok (.ireturn, 1) := by decide +kernel
theorem dX0_mayLeavePhase_73 : decode cX0_mayLeavePhase 73 = .ok (.aload_n 0, 1) := by decide +kernel
theorem dX0_mayLeavePhase_74 : decode cX0_mayLeavePhase 74 = .ok (.getfield 89, 3) := by decide +kernel
theorem dX0_mayLeavePhase_77 : decode cX0_mayLeavePhase 77 = .ok (.bipush 100, 2) := by decide +kernel
theorem dX0_mayLeavePhase_79 : decode cX0_mayLeavePhase 79 = .ok (.if_icmp .lt 7, 3) := by decide +kernel
theorem dX0_mayLeavePhase_82 : decode cX0_mayLeavePhase 82 = .ok (.iconst 1, 1) := by decide +kernel
theorem dX0_mayLeavePhase_83 : decode cX0_mayLeavePhase 83 = .ok (.goto 4, 3) := by decide +kernel
theorem dX0_mayLeavePhase_86 : decode cX0_mayLeavePhase 86 = .ok (.iconst 0, 1) := by decide +kernel
theorem dX0_mayLeavePhase_87 : decode cX0_mayLeavePhase 87 = .ok (.ireturn, 1) := by decide +kernel
theorem dX0_mayLeavePhase_88 : decode cX0_mayLeavePhase 88 = .ok (.aload_n 0, 1) := by decide +kernel
theorem dX0_mayLeavePhase_89 : decode cX0_mayLeavePhase 89 = .ok (.getfield 65, 3) := by decide +kernel
theorem dX0_mayLeavePhase_92 : decode cX0_mayLeavePhase 92 = .ok (.ifCond .ne 7, 3) := by decide +kernel
theorem dX0_mayLeavePhase_95 : decode cX0_mayLeavePhase 95 = .ok (.iconst 1, 1) := by decide +kernel
theorem dX0_mayLeavePhase_96 : decode cX0_mayLeavePhase 96 = .ok (.goto 4, 3) := by decide +kernel
theorem dX0_mayLeavePhase_99 : decode cX0_mayLeavePhase 99 = .ok (.iconst 0, 1) := by decide +kernel
theorem dX0_mayLeavePhase_100 : decode cX0_mayLeavePhase 100 = .ok (.ireturn, 1) := by decide +kernel
theorem dX0_mayLeavePhase_101 : decode cX0_mayLeavePhase 101 = .ok (.aload_n 0, 1) := by decide +kernel
theorem dX0_mayLeavePhase_102 : decode cX0_mayLeavePhase 102 = .ok (.getfield 89, 3) := by decide +kernel
theorem dX0_mayLeavePhase_105 : decode cX0_mayLeavePhase 105 = .ok (.bipush 50, 2) := by decide +kernel
theorem dX0_mayLeavePhase_107 : decode cX0_mayLeavePhase 107 = .ok (.if_icmp .lt 7, 3) := by decide +kernel
theorem dX0_mayLeavePhase_110 : decode cX0_mayLeavePhase 110 = .ok (.iconst 1, 1) := by decide +kernel
theorem dX0_mayLeavePhase_111 : decode cX0_mayLeavePhase 111 = .ok (.goto 4, 3) := by decide +kernel
theorem dX0_mayLeavePhase_114 : decode cX0_mayLeavePhase 114 = .ok (.iconst 0, 1) := by decide +kernel
theorem dX0_mayLeavePhase_115 : decode cX0_mayLeavePhase 115 = .ok (.ireturn, 1) := by decide +kernel
theorem dX0_mayLeavePhase_116 : decode cX0_mayLeavePhase 116 = .ok (.aload_n 0, 1) := by decide +kernel
theorem dX0_mayLeavePhase_117 : decode cX0_mayLeavePhase 117 = .ok (.getfield 89, 3) := by decide +kernel
theorem dX0_mayLeavePhase_120 : decode cX0_mayLeavePhase 120 = .ok (.bipush 30, 2) := by decide +kernel
theorem dX0_mayLeavePhase_122 : decode cX0_mayLeavePhase 122 = .ok (.if_icmp .lt 7, 3) := by decide +kernel
theorem dX0_mayLeavePhase_125 : decode cX0_mayLeavePhase 125 = .ok (.iconst 1, 1) := by decide +kernel
theorem dX0_mayLeavePhase_126 : decode cX0_mayLeavePhase 126 = .ok (.goto 4, 3) := by decide +kernel
theorem dX0_mayLeavePhase_129 : decode cX0_mayLeavePhase 129 = .ok (.iconst 0, 1) := by decide +kernel
theorem dX0_mayLeavePhase_130 : decode cX0_mayLeavePhase 130 = .ok (.ireturn, 1) := by decide +kernel
theorem dX0_mayLeavePhase_131 : decode cX0_mayLeavePhase 131 = .ok (.iconst 1, 1) := by decide +kernel
theorem dX0_mayLeavePhase_132 : decode cX0_mayLeavePhase 132 = .ok (.ireturn, 1) := by decide +kernel
theorem dX0_areConsistent_0 : decode cX0_areConsistent 0 = .ok (.aload_n 0, 1) := by decide +kernel
theorem dX0_areConsistent_1 : decode cX0_areConsistent 1 = .ok (.getfield 18, 3) := by decide +kernel
theorem dX0_areConsistent_4 : decode cX0_areConsistent 4 = .ok (.bipush 6, 2) := by decide +kernel
theorem dX0_areConsistent_6 : decode cX0_areConsistent 6 = .ok (.iaload, 1) := by decide +kernel
theorem dX0_areConsistent_7 : decode cX0_areConsistent 7 = .ok (.bipush 20, 2) := by decide +kernel
theorem dX0_areConsistent_9 : decode cX0_areConsistent 9 = .ok (.iadd, 1) := by decide +kernel
theorem dX0_areConsistent_10 : decode cX0_areConsistent 10 = .ok (.aload_n 0, 1) := by decide +kernel
theorem dX0_areConsistent_11 : decode cX0_areConsistent 11 = .ok (.getfield 18, 3) := by decide +kernel
theorem dX0_areConsistent_14 : decode cX0_areConsistent 14 = .ok (.bipush 7, 2) := by decide +kernel
theorem dX0_areConsistent_16 : decode cX0_areConsistent 16 = .ok (.iaload, 1) := by decide +kernel
theorem dX0_areConsistent_17 : decode cX0_areConsistent 17 = .ok (.if_icmp .gt 52, 3) := by decide +kernel
theorem dX0_areConsistent_20 : decode cX0_areConsistent 20 = .ok (.aload_n 0, 1) := by decide +kernel
theorem dX0_areConsistent_21 : decode cX0_areConsistent 21 = .ok (.getfield 18, 3) := by decide +kernel
theorem dX0_areConsistent_24 : decode cX0_areConsistent 24 = .ok (.bipush 8, 2) := by decide +kernel
theorem dX0_areConsistent_26 : decode cX0_areConsistent 26 = .ok (.iaload, 1) := by decide +kernel
theorem dX0_areConsistent_27 : decode cX0_areConsistent 27 = .ok (.bipush 20, 2) := by decide +kernel
theorem dX0_areConsistent_29 : decode cX0_areConsistent 29 = .ok (.iadd, 1) := by decide +kernel
theorem dX0_areConsistent_30 : decode cX0_areConsistent 30 = .ok (.aload_n 0, 1) := by decide +kernel
theorem dX0_areConsistent_31 : decode cX0_areConsistent 31 = .ok (.getfield 18, 3) := by decide +kernel
theorem dX0_areConsistent_34 : decode cX0_areConsistent 34 = .ok (.bipush 9, 2) := by decide +kernel
theorem dX0_areConsistent_36 : decode cX0_areConsistent 36 = .ok (.iaload, 1) := by decide +kernel
theorem dX0_areConsistent_37 : decode cX0_areConsistent 37 = .ok (.if_icmp .gt 32, 3) := by decide +kernel
theorem dX0_areConsistent_40 : decode cX0_areConsistent 40 = .ok (.bipush 60, 2) := by decide +kernel
theorem dX0_areConsistent_42 : decode cX0_areConsistent 42 = .ok (.aload_n 0, 1) := by decide +kernel
theorem dX0_areConsistent_43 : decode cX0_areConsistent 43 = .ok (.getfield 18, 3) := by decide +kernel
theorem dX0_areConsistent_46 : decode cX0_areConsistent 46 = .ok (.iconst 1, 1) := by decide +kernel
theorem dX0_areConsistent_47 : decode cX0_areConsistent 47 = .ok (.iaload, 1) := by decide +kernel
theorem dX0_areConsistent_48 : decode cX0_areConsistent 48 = .ok (.imul, 1) := by decide +kernel
theorem dX0_areConsistent_49 : decode cX0_areConsistent 49 = .ok (.aload_n 0, 1) := by decide +kernel
theorem dX0_areConsistent_50 : decode cX0_areConsistent 50 = .ok (.getfield 18, 3) := by decide +kernel
theorem dX0_areConsistent_53 : decode cX0_areConsistent 53 = .ok (.iconst 2, 1) := by decide +kernel
theorem dX0_areConsistent_54 : decode cX0_areConsistent 54 = .ok (.iaload, 1) := by decide +kernel
theorem dX0_areConsistent_55 : decode cX0_areConsistent 55 = .ok (.aload_n 0, 1) := by decide +kernel
theorem dX0_areConsistent_56 : decode cX0_areConsistent 56 = .ok (.getfield 18, 3) := by decide +kernel
theorem dX0_areConsistent_59 : decode cX0_areConsistent 59 = .ok (.iconst 3, 1) := by decide +kernel
theorem dX0_areConsistent_60 : decode cX0_areConsistent 60 = .ok (.iaload, 1) := by decide +kernel
theorem dX0_areConsistent_61 : decode cX0_areConsistent 61 = .ok (.imul, 1) := by decide +kernel
theorem dX0_areConsistent_62 : decode cX0_areConsistent 62 = .ok (.if_icmp .gt 7, 3) := by decide +kernel
theorem dX0_areConsistent_65 : decode cX0_areConsistent 65 = .ok (.iconst 1, 1) := by decide +kernel
theorem dX0_areConsistent_66 : decode cX0_areConsistent 66 = .ok (.goto 4, 3) := by decide +kernel
theorem dX0_areConsistent_69 : decode cX0_areConsistent 69 = .ok (.iconst 0, 1) := by decide +kernel
theorem dX0_areConsistent_70 : decode cX0_areConsistent 70 = .ok (.ireturn, 1) := by decide +kernel
theorem dX0_beginPhase_0 : decode cX0_beginPhase 0 = .ok (.aload_n 0, 1) := by decide +kernel
theorem dX0_beginPhase_1 : decode cX0_beginPhase 1 = .ok (.iload_n 1, 1) := by decide +kernel
theorem dX0_beginPhase_2 : decode cX0_beginPhase 2 = .ok (.putfield 33, 3) := by decide +kernel
theorem dX0_beginPhase_5 : decode cX0_beginPhase 5 = .ok (.aload_n 0, 1) := by decide +kernel
theorem dX0_beginPhase_6 : decode cX0_beginPhase 6 = .ok (.iconst 0, 1) := by decide +kernel
theorem dX0_beginPhase_7 : decode cX0_beginPhase 7 = .ok (.putfield 89, 3) := by decide +kernel
theorem dX0_beginPhase_10 : decode cX0_beginPhase 10 = .ok (.iload_n 1, 1) := by decide +kernel
theorem dX0_beginPhase_11 : decode cX0_beginPhase 11 = .ok (.iconst 3, 1) := by decide +kernel
theorem dX0_beginPhase_12 : decode cX0_beginPhase 12 = .ok (.if_icmp .ne 18, 3) := by decide +kernel
theorem dX0_beginPhase_15 : decode cX0_beginPhase 15 = .ok (.aload_n 0, 1) := by decide +kernel
theorem dX0_beginPhase_16 : decode cX0_beginPhase 16 = .ok (.iconst 0, 1) := by decide +kernel
theorem dX0_beginPhase_17 : decode cX0_beginPhase 17 = .ok (.putfield 77, 3) := by decide +kernel
theorem dX0_beginPhase_20 : decode cX0_beginPhase 20 = .ok (.aload_n 0, 1) := by decide +kernel
theorem dX0_beginPhase_21 : decode cX0_beginPhase 21 = .ok (.iconst 0, 1) := by decide +kernel
theorem dX0_beginPhase_22 : decode cX0_beginPhase 22 = .ok (.putfield 80, 3) := by decide +kernel
theorem dX0_beginPhase_25 : decode cX0_beginPhase 25 = .ok (.aload_n 0, 1) := by decide +kernel
theorem dX0_beginPhase_26 : decode cX0_beginPhase 26 = .ok (.iconst 0, 1) := by decide +kernel
theorem dX0_beginPhase_27 : decode cX0_beginPhase 27 = .ok (.putfield 83, 3) := by decide +kernel
theorem dX0_beginPhase_30 : decode cX0_beginPhase 30 = .ok (.return_, 1) := by decide +kernel
set_option maxRecDepth 20000 in
theorem ggX0_makeTick_X0_conditionSensors : GoodIn wsX0_makeTick wsX0_conditionSensors := goodIn_r _ [11, 12, 13, 14, 15, 16, 17, 18, 10, 19, 86, 87, 88, 89, 90, 91, 92, 93, 94, 95, 96, 97, 98, 99, 100, 101, 102, 103] (by decide +kernel) (by decide +kernel)
set_option maxRecDepth 20000 in
theorem gX0_makeTick_X0_conditionSensors : GoodIn wsX0_makeTick (wsV RX0 98 RX0 yX0_conditionSensors wsX0_conditionSensors) := goodIn_app (goodIn_of _ (by decide +kernel)) ggX0_makeTick_X0_conditionSensors
set_option maxRecDepth 20000 in
theorem ggX0_makeTick_X0_countTicksInARow : GoodIn wsX0_makeTick wsX0_countTicksInARow := goodIn_r _ [23, 16, 24, 25, 26, 27, 28, 29, 30, 31, 10, 32, 2, 17, 18, 19, 33, 34, 35, 36, 37, 38, 39, 40, 86, 87, 88, 89, 90, 91, 92, 93, 94, 95, 96, 97, 98, 99, 100, 101, 102, 103] (by decide +kernel) (by decide +kernel)
set_option maxRecDepth 20000 in
theorem gX0_makeTick_X0_countTicksInARow : GoodIn wsX0_makeTick (wsV RX0 101 RX0 yX0_countTicksInARow wsX0_countTicksInARow) := goodIn_app (goodIn_of _ (by decide +kernel)) ggX0_makeTick_X0_countTicksInARow
set_option maxRecDepth 20000 in
theorem ggX0_makeTick_X0_conditionsNow : GoodIn wsX0_makeTick wsX0_conditionsNow := goodIn_r _ [44, 25, 26, 16, 2, 27, 29, 30, 31, 10, 32, 45, 46, 47, 48, 15, 86, 87, 88, 89, 90, 91, 92, 93, 94, 95, 96, 97, 98, 99, 100, 101, 102, 103] (by decide +kernel) (by decide +kernel)
set_option maxRecDepth 20000 in
theorem gX0_makeTick_X0_conditionsNow : GoodIn wsX0_makeTick (wsV RX0 104 RX0 yX0_conditionsNow wsX0_conditionsNow) := goodIn_app (goodIn_of _ (by decide +kernel)) ggX0_makeTick_X0_conditionsNow
set_option maxRecDepth 20000 in
theorem ggX0_makeTick_X0_commandsOfControl : GoodIn wsX0_makeTick wsX0_commandsOfControl := goodIn_r _ [52, 2, 1, 27, 53, 54, 55, 56, 57, 10, 58, 24, 59, 60, 61, 62, 63, 86, 87, 88, 89, 90, 91, 92, 93, 94, 95, 96, 97, 98, 99, 100, 101, 102, 103] (by decide +kernel) (by decide +kernel)
set_option maxRecDepth 20000 in
theorem gX0_makeTick_X0_commandsOfControl : GoodIn wsX0_makeTick (wsV RX0 108 RX0 yX0_commandsOfControl wsX0_commandsOfControl) := goodIn_app (goodIn_of _ (by decide +kernel)) ggX0_makeTick_X0_commandsOfControl
set_option maxRecDepth 20000 in
theorem ggX0_makeTick_X0_afterProtection : GoodIn wsX0_makeTick wsX0_afterProtection := goodIn_r _ [67, 68, 2, 12, 29, 30, 31, 10, 32, 69, 70, 71, 72, 17, 18, 19, 73, 74, 75, 76, 6, 24, 86, 87, 88, 89, 90, 91, 92, 93, 94, 95, 96, 97, 98, 99, 100, 101, 102, 103] (by decide +kernel) (by decide +kernel)
set_option maxRecDepth 20000 in
theorem gX0_makeTick_X0_afterProtection : GoodIn wsX0_makeTick (wsV RX0 111 RX0 yX0_afterProtection wsX0_afterProtection) := goodIn_app (goodIn_of _ (by decide +kernel)) ggX0_makeTick_X0_afterProtection
set_option maxRecDepth 20000 in
theorem ggX0_makeTick_X0_countTowardsEnd : GoodIn wsX0_makeTick wsX0_countTowardsEnd := goodIn_r _ [80, 2, 5, 81, 53, 60, 61, 62, 10, 63, 24, 82, 83, 84, 85, 54, 6, 86, 87, 88, 89, 90, 91, 92, 93, 94, 95, 96, 97, 98, 99, 100, 101, 102, 103] (by decide +kernel) (by decide +kernel)
set_option maxRecDepth 20000 in
theorem gX0_makeTick_X0_countTowardsEnd : GoodIn wsX0_makeTick (wsV RX0 115 RX0 yX0_countTowardsEnd wsX0_countTowardsEnd) := goodIn_app (goodIn_of _ (by decide +kernel)) ggX0_makeTick_X0_countTowardsEnd
theorem dX0_makeTick_0 : decode cX0_makeTick 0 = .ok (.aload_n 0, 1) := by decide +kernel
theorem dX0_makeTick_1 : decode cX0_makeTick 1 = .ok (.getfield 65, 3) := by decide +kernel
theorem dX0_makeTick_4 : decode cX0_makeTick 4 = .ok (.istore_n 1, 1) := by decide +kernel
theorem dX0_makeTick_5 : decode cX0_makeTick 5 = .ok (.aload_n 0, 1) := by decide +kernel
theorem dX0_makeTick_6 : decode cX0_makeTick 6 = .ok (.getfield 33, 3) := by decide +kernel
theorem dX0_makeTick_9 : decode cX0_makeTick 9 = .ok (.istore_n 2, 1) := by decide +kernel
theorem dX0_makeTick_10 : decode cX0_makeTick 10 = .ok (.aload_n 0, 1) := by decide +kernel
theorem dX0_makeTick_11 : decode cX0_makeTick 11 = .ok (.invokevirtual 98, 3) := by decide +kernel
theorem dX0_makeTick_14 : decode cX0_makeTick 14 = .ok (.aload_n 0, 1) := by decide +kernel
theorem dX0_makeTick_15 : decode cX0_makeTick 15 = .ok (.invokevirtual 101, 3) := by decide +kernel
theorem dX0_makeTick_18 : decode cX0_makeTick 18 = .ok (.aload_n 0, 1) := by decide +kernel
theorem dX0_makeTick_19 : decode cX0_makeTick 19 = .ok (.aload_n 0, 1) := by decide +kernel
theorem dX0_makeTick_20 : decode cX0_makeTick 20 = .ok (.invokevirtual 104, 3) := by decide +kernel
theorem dX0_makeTick_23 : decode cX0_makeTick 23 = .ok (.putfield 68, 3) := by decide +kernel
theorem dX0_makeTick_26 : decode cX0_makeTick 26 = .ok (.aload_n 0, 1) := by decide +kernel
theorem dX0_makeTick_27 : decode cX0_makeTick 27 = .ok (.dup, 1) := by decide +kernel
theorem dX0_makeTick_28 : decode cX0_makeTick 28 = .ok (.getfield 65, 3) := by decide +kernel
theorem dX0_makeTick_31 : decode cX0_makeTick 31 = .ok (.aload_n 0, 1) := by decide +kernel
theorem dX0_makeTick_32 : decode cX0_makeTick 32 = .ok (.getfield 68, 3) := by decide +kernel
theorem dX0_makeTick_35 : decode cX0_makeTick 35 = .ok (.ior, 1) := by decide +kernel
theorem dX0_makeTick_36 : decode cX0_makeTick 36 = .ok (.putfield 65, 3) := by decide +kernel
theorem dX0_makeTick_39 : decode cX0_makeTick 39 = .ok (.aload_n 0, 1) := by decide +kernel
theorem dX0_makeTick_40 : decode cX0_makeTick 40 = .ok (.invokevirtual 108, 3) := by decide +kernel
theorem dX0_makeTick_43 : decode cX0_makeTick 43 = .ok (.istore_n 3, 1) := by decide +kernel
theorem dX0_makeTick_44 : decode cX0_makeTick 44 = .ok (.aload_n 0, 1) := by decide +kernel
theorem dX0_makeTick_45 : decode cX0_makeTick 45 = .ok (.aload_n 0, 1) := by decide +kernel
theorem dX0_makeTick_46 : decode cX0_makeTick 46 = .ok (.aload_n 0, 1) := by decide +kernel
theorem dX0_makeTick_47 : decode cX0_makeTick 47 = .ok (.getfield 37, 3) := by decide +kernel
theorem dX0_makeTick_50 : decode cX0_makeTick 50 = .ok (.iconst (-1), 1) := by decide +kernel
theorem dX0_makeTick_51 : decode cX0_makeTick 51 = .ok (.if_icmp .ne 7, 3) := by decide +kernel
theorem dX0_makeTick_54 : decode cX0_makeTick 54 = .ok (.iload_n 3, 1) := by decide +kernel
theorem dX0_makeTick_55 : decode cX0_makeTick 55 = .ok (.goto 7, 3) := by decide +kernel
theorem dX0_makeTick_58 : decode cX0_makeTick 58 = .ok (.aload_n 0, 1) := by decide +kernel
theorem dX0_makeTick_59 : decode cX0_makeTick 59 = .ok (.getfield 37, 3) := by decide +kernel
theorem dX0_makeTick_62 : decode cX0_makeTick 62 = .ok (.invokevirtual 111, 3) := by decide +kernel
theorem dX0_makeTick_65 : decode cX0_makeTick 65 = .ok (.putfield 74, 3) := by decide +kernel
theorem dX0_makeTick_68 : decode cX0_makeTick 68 = .ok (.aload_n 0, 1) := by decide +kernel
theorem dX0_makeTick_69 : decode cX0_makeTick 69 = .ok (.getfield 74, 3) := by decide +kernel
theorem dX0_makeTick_72 : decode cX0_makeTick 72 = .ok (.bipush 8, 2) := by decide +kernel
theorem dX0_makeTick_74 : decode cX0_makeTick 74 = .ok (.iand, 1) := by decide +kernel
theorem dX0_makeTick_75 : decode cX0_makeTick 75 = .ok (.ifCond .eq 13, 3) := by decide +kernel
theorem dX0_makeTick_78 : decode cX0_makeTick 78 = .ok (.aload_n 0, 1) := by decide +kernel
theorem dX0_makeTick_79 : decode cX0_makeTick 79 = .ok (.dup, 1) := by decide +kernel
theorem dX0_makeTick_80 : decode cX0_makeTick 80 = .ok (.getfield 83, 3) := by decide +kernel
theorem dX0_makeTick_83 : decode cX0_makeTick 83 = .ok (.iconst 1, 1) := by decide +kernel
theorem dX0_makeTick_84 : decode cX0_makeTick 84 = .ok (.iadd, 1) := by decide +kernel
theorem dX0_makeTick_85 : decode cX0_makeTick 85 = .ok (.putfield 83, 3) := by decide +kernel
theorem dX0_makeTick_88 : decode cX0_makeTick 88 = .ok (.aload_n 0, 1) := by decide +kernel
theorem dX0_makeTick_89 : decode cX0_makeTick 89 = .ok (.invokevirtual 115, 3) := by decide +kernel
theorem dX0_makeTick_92 : decode cX0_makeTick 92 = .ok (.aload_n 0, 1) := by decide +kernel
theorem dX0_makeTick_93 : decode cX0_makeTick 93 = .ok (.getfield 65, 3) := by decide +kernel
theorem dX0_makeTick_96 : decode cX0_makeTick 96 = .ok (.iload_n 1, 1) := by decide +kernel
theorem dX0_makeTick_97 : decode cX0_makeTick 97 = .ok (.if_icmp .ne 11, 3) := by decide +kernel
theorem dX0_makeTick_100 : decode cX0_makeTick 100 = .ok (.aload_n 0, 1) := by decide +kernel
theorem dX0_makeTick_101 : decode cX0_makeTick 101 = .ok (.getfield 33, 3) := by decide +kernel
theorem dX0_makeTick_104 : decode cX0_makeTick 104 = .ok (.iload_n 2, 1) := by decide +kernel
theorem dX0_makeTick_105 : decode cX0_makeTick 105 = .ok (.if_icmp .eq 7, 3) := by decide +kernel
theorem dX0_makeTick_108 : decode cX0_makeTick 108 = .ok (.iconst 1, 1) := by decide +kernel
theorem dX0_makeTick_109 : decode cX0_makeTick 109 = .ok (.goto 4, 3) := by decide +kernel
theorem dX0_makeTick_112 : decode cX0_makeTick 112 = .ok (.iconst 0, 1) := by decide +kernel
theorem dX0_makeTick_113 : decode cX0_makeTick 113 = .ok (.ireturn, 1) := by decide +kernel
set_option maxRecDepth 20000 in
theorem ggX0_conditionSensors_X0_isOutside : GoodIn wsX0_conditionSensors wsX0_isOutside := goodIn_r _ [9] (by decide +kernel) (by decide +kernel)
set_option maxRecDepth 20000 in
theorem gX0_conditionSensors_X0_isOutside : GoodIn wsX0_conditionSensors (va_wsS RX0 50 yX0_isOutside wsX0_isOutside) := goodIn_app (goodIn_of _ (by decide +kernel)) ggX0_conditionSensors_X0_isOutside
theorem dX0_conditionSensors_0 : decode cX0_conditionSensors 0 = .ok (.iconst 0, 1) := by decide +kernel
theorem dX0_conditionSensors_1 : decode cX0_conditionSensors 1 = .ok (.istore_n 1, 1) := by decide +kernel
theorem dX0_conditionSensors_2 : decode cX0_conditionSensors 2 = .ok (.iload_n 1, 1) := by decide +kernel
theorem dX0_conditionSensors_3 : decode cX0_conditionSensors 3 = .ok (.bipush 6, 2) := by decide +kernel
theorem dX0_conditionSensors_5 : decode cX0_conditionSensors 5 = .ok (.if_icmp .ge 63, 3) := by decide +kernel
theorem dX0_conditionSensors_8 : decode cX0_conditionSensors 8 = .ok (.aload_n 0, 1) := by decide +kernel
theorem dX0_conditionSensors_9 : decode cX0_conditionSensors 9 = .ok (.getfield 24, 3) := by decide +kernel
theorem dX0_conditionSensors_12 : decode cX0_conditionSensors 12 = .ok (.iload_n 1, 1) := by decide +kernel
theorem dX0_conditionSensors_13 : decode cX0_conditionSensors 13 = .ok (.iaload, 1) := by decide +kernel
theorem dX0_conditionSensors_14 : decode cX0_conditionSensors 14 = .ok (.getstatic 118, 3) := by decide +kernel
theorem dX0_conditionSensors_17 : decode cX0_conditionSensors 17 = .ok (.iload_n 1, 1) := by decide +kernel
theorem dX0_conditionSensors_18 : decode cX0_conditionSensors 18 = .ok (.iaload, 1) := by decide +kernel
theorem dX0_conditionSensors_19 : decode cX0_conditionSensors 19 = .ok (.getstatic 121, 3) := by decide +kernel
theorem dX0_conditionSensors_22 : decode cX0_conditionSensors 22 = .ok (.iload_n 1, 1) := by decide +kernel
theorem dX0_conditionSensors_23 : decode cX0_conditionSensors 23 = .ok (.iaload, 1) := by decide +kernel
theorem dX0_conditionSensors_24 : decode cX0_conditionSensors 24 = .ok (.invokestatic 50, 3) := by decide +kernel
theorem dX0_conditionSensors_27 : decode cX0_conditionSensors 27 = .ok (.ifCond .eq 16, 3) := by decide +kernel
theorem dX0_conditionSensors_30 : decode cX0_conditionSensors 30 = .ok (.aload_n 0, 1) := by decide +kernel
theorem dX0_conditionSensors_31 : decode cX0_conditionSensors 31 = .ok (.getfield 30, 3) := by decide +kernel
theorem dX0_conditionSensors_34 : decode cX0_conditionSensors 34 = .ok (.iload_n 1, 1) := by decide +kernel
theorem dX0_conditionSensors_35 : decode cX0_conditionSensors 35 = .ok (.dup2, 1) := by decide +kernel
theorem dX0_conditionSensors_36 : decode cX0_conditionSensors 36 = .ok (.iaload, 1) := by decide +kernel
theorem dX0_conditionSensors_37 : decode cX0_conditionSensors 37 = .ok (.iconst 1, 1) := by decide +kernel
theorem dX0_conditionSensors_38 : decode cX0_conditionSensors 38 = .ok (.iadd, 1) := by decide +kernel
theorem dX0_conditionSensors_39 : decode cX0_conditionSensors 39 = .ok (.iastore, 1) := by decide +kernel
theorem dX0_conditionSensors_40 : decode cX0_conditionSensors 40 = .ok (.goto 22, 3) := by decide +kernel
theorem dX0_conditionSensors_43 : decode cX0_conditionSensors 43 = .ok (.aload_n 0, 1) := by decide +kernel
theorem dX0_conditionSensors_44 : decode cX0_conditionSensors 44 = .ok (.getfield 30, 3) := by decide +kernel
theorem dX0_conditionSensors_47 : decode cX0_conditionSensors 47 = .ok (.iload_n 1, 1) := by decide +kernel
theorem dX0_conditionSensors_48 : decode cX0_conditionSensors 48 = .ok (.iconst 0, 1) := by decide +kernel
theorem dX0_conditionSensors_49 : decode cX0_conditionSensors 49 = .ok (.iastore, 1) := by decide +kernel
theorem dX0_conditionSensors_50 : decode cX0_conditionSensors 50 = .ok (.aload_n 0, 1) := by decide +kernel
theorem dX0_conditionSensors_51 : decode cX0_conditionSensors 51 = .ok (.getfield 27, 3) := by decide +kernel
theorem dX0_conditionSensors_54 : decode cX0_conditionSensors 54 = .ok (.iload_n 1, 1) := by decide +kernel
theorem dX0_conditionSensors_55 : decode cX0_conditionSensors 55 = .ok (.aload_n 0, 1) := by decide +kernel
theorem dX0_conditionSensors_56 : decode cX0_conditionSensors 56 = .ok (.getfield 24, 3) := by decide +kernel
theorem dX0_conditionSensors_59 : decode cX0_conditionSensors 59 = .ok (.iload_n 1, 1) := by decide +kernel
theorem dX0_conditionSensors_60 : decode cX0_conditionSensors 60 = .ok (.iaload, 1) := by decide +kernel
theorem dX0_conditionSensors_61 : decode cX0_conditionSensors 61 = .ok (.iastore, 1) := by decide +kernel
theorem dX0_conditionSensors_62 : decode cX0_conditionSensors 62 = .ok (.iinc 1 1, 3) := by decide +kernel
theorem dX0_conditionSensors_65 : decode cX0_conditionSensors 65 = .ok (.goto (-63), 3) := by decide +kernel
theorem dX0_conditionSensors_68 : decode cX0_conditionSensors 68 = .ok (.return_, 1) := by decide +kernel
set_option maxRecDepth 20000 in
theorem ggX0_countTicksInARow_X0_isConnected : GoodIn wsX0_countTicksInARow wsX0_isConnected := goodIn_r _ [11, 12, 24, 25, 26, 27, 28, 29, 30, 31, 32, 33, 34, 35, 36, 37, 38, 39, 40, 41] (by decide +kernel) (by decide +kernel)
set_option maxRecDepth 20000 in
theorem gX0_countTicksInARow_X0_isConnected : GoodIn wsX0_countTicksInARow (wsV RX0 124 RX0 yX0_isConnected wsX0_isConnected) := goodIn_app (goodIn_of _ (by decide +kernel)) ggX0_countTicksInARow_X0_isConnected
set_option maxRecDepth 20000 in
theorem ggX0_countTicksInARow_X0_isOutside : GoodIn wsX0_countTicksInARow wsX0_isOutside := goodIn_r _ [15] (by decide +kernel) (by decide +kernel)
set_option maxRecDepth 20000 in
theorem gX0_countTicksInARow_X0_isOutside : GoodIn wsX0_countTicksInARow (va_wsS RX0 50 yX0_isOutside wsX0_isOutside) := goodIn_app (goodIn_of _ (by decide +kernel)) ggX0_countTicksInARow_X0_isOutside
set_option maxRecDepth 20000 in
theorem ggX0_countTicksInARow_X0_isFluidOff : GoodIn wsX0_countTicksInARow wsX0_isFluidOff := goodIn_r _ [19, 1, 2, 20, 21, 22, 23, 24, 25, 26, 27, 28, 29, 30, 31, 32, 33, 34, 35, 36, 37, 38, 39, 40, 41] (by decide +kernel) (by decide +kernel)
set_option maxRecDepth 20000 in
theorem gX0_countTicksInARow_X0_isFluidOff : GoodIn wsX0_countTicksInARow (wsV RX0 127 RX0 yX0_isFluidOff wsX0_isFluidOff) := goodIn_app (goodIn_of _ (by decide +kernel)) ggX0_countTicksInARow_X0_isFluidOff
theorem dX0_countTicksInARow_0 : decode cX0_countTicksInARow 0 = .ok (.aload_n 0, 1) := by decide +kernel
theorem dX0_countTicksInARow_1 : decode cX0_countTicksInARow 1 = .ok (.invokevirtual 124, 3) := by decide +kernel
theorem dX0_countTicksInARow_4 : decode cX0_countTicksInARow 4 = .ok (.istore_n 1, 1) := by decide +kernel
theorem dX0_countTicksInARow_5 : decode cX0_countTicksInARow 5 = .ok (.aload_n 0, 1) := by decide +kernel
theorem dX0_countTicksInARow_6 : decode cX0_countTicksInARow 6 = .ok (.getfield 27, 3) := by decide +kernel
theorem dX0_countTicksInARow_9 : decode cX0_countTicksInARow 9 = .ok (.iconst 0, 1) := by decide +kernel
theorem dX0_countTicksInARow_10 : decode cX0_countTicksInARow 10 = .ok (.iaload, 1) := by decide +kernel
theorem dX0_countTicksInARow_11 : decode cX0_countTicksInARow 11 = .ok (.aload_n 0, 1) := by decide +kernel
theorem dX0_countTicksInARow_12 : decode cX0_countTicksInARow 12 = .ok (.getfield 18, 3) := by decide +kernel
theorem dX0_countTicksInARow_15 : decode cX0_countTicksInARow 15 = .ok (.bipush 6, 2) := by decide +kernel
theorem dX0_countTicksInARow_17 : decode cX0_countTicksInARow 17 = .ok (.iaload, 1) := by decide +kernel
theorem dX0_countTicksInARow_18 : decode cX0_countTicksInARow 18 = .ok (.aload_n 0, 1) := by decide +kernel
theorem dX0_countTicksInARow_19 : decode cX0_countTicksInARow 19 = .ok (.getfield 18, 3) := by decide +kernel
theorem dX0_countTicksInARow_22 : decode cX0_countTicksInARow 22 = .ok (.bipush 7, 2) := by decide +kernel
theorem dX0_countTicksInARow_24 : decode cX0_countTicksInARow 24 = .ok (.iaload, 1) := by decide +kernel
theorem dX0_countTicksInARow_25 : decode cX0_countTicksInARow 25 = .ok (.invokestatic 50, 3) := by decide +kernel
theorem dX0_countTicksInARow_28 : decode cX0_countTicksInARow 28 = .ok (.istore_n 2, 1) := by decide +kernel
theorem dX0_countTicksInARow_29 : decode cX0_countTicksInARow 29 = .ok (.aload_n 0, 1) := by decide +kernel
theorem dX0_countTicksInARow_30 : decode cX0_countTicksInARow 30 = .ok (.getfield 27, 3) := by decide +kernel
theorem dX0_countTicksInARow_33 : decode cX0_countTicksInARow 33 = .ok (.iconst 1, 1) := by decide +kernel
theorem dX0_countTicksInARow_34 : decode cX0_countTicksInARow 34 = .ok (.iaload, 1) := by decide +kernel
theorem dX0_countTicksInARow_35 : decode cX0_countTicksInARow 35 = .ok (.aload_n 0, 1) := by decide +kernel
theorem dX0_countTicksInARow_36 : decode cX0_countTicksInARow 36 = .ok (.getfield 18, 3) := by decide +kernel
theorem dX0_countTicksInARow_39 : decode cX0_countTicksInARow 39 = .ok (.bipush 8, 2) := by decide +kernel
theorem dX0_countTicksInARow_41 : decode cX0_countTicksInARow 41 = .ok (.iaload, 1) := by decide +kernel
theorem dX0_countTicksInARow_42 : decode cX0_countTicksInARow 42 = .ok (.aload_n 0, 1) := by decide +kernel
theorem dX0_countTicksInARow_43 : decode cX0_countTicksInARow 43 = .ok (.getfield 18, 3) := by decide +kernel
theorem dX0_countTicksInARow_46 : decode cX0_countTicksInARow 46 = .ok (.bipush 9, 2) := by decide +kernel
theorem dX0_countTicksInARow_48 : decode cX0_countTicksInARow 48 = .ok (.iaload, 1) := by decide +kernel
theorem dX0_countTicksInARow_49 : decode cX0_countTicksInARow 49 = .ok (.invokestatic 50, 3) := by decide +kernel
theorem dX0_countTicksInARow_52 : decode cX0_countTicksInARow 52 = .ok (.istore_n 3, 1) := by decide +kernel
theorem dX0_countTicksInARow_53 : decode cX0_countTicksInARow 53 = .ok (.aload_n 0, 1) := by decide +kernel
theorem dX0_countTicksInARow_54 : decode cX0_countTicksInARow 54 = .ok (.invokevirtual 127, 3) := by decide +kernel
theorem dX0_countTicksInARow_57 : decode cX0_countTicksInARow 57 = .ok (.istore 4, 2) := by decide +kernel
theorem dX0_countTicksInARow_59 : decode cX0_countTicksInARow 59 = .ok (.aload_n 0, 1) := by decide +kernel
theorem dX0_countTicksInARow_60 : decode cX0_countTicksInARow 60 = .ok (.iload_n 1, 1) := by decide +kernel
theorem dX0_countTicksInARow_61 : decode cX0_countTicksInARow 61 = .ok (.ifCond .eq 16, 3) := by decide +kernel
theorem dX0_countTicksInARow_64 : decode cX0_countTicksInARow 64 = .ok (.iload_n 2, 1) := by decide +kernel
theorem dX0_countTicksInARow_65 : decode cX0_countTicksInARow 65 = .ok (.ifCond .eq 12, 3) := by decide +kernel
theorem dX0_countTicksInARow_68 : decode cX0_countTicksInARow 68 = .ok (.aload_n 0, 1) := by decide +kernel
theorem dX0_countTicksInARow_69 : decode cX0_countTicksInARow 69 = .ok (.getfield 130, 3) := by decide +kernel
theorem dX0_countTicksInARow_72 : decode cX0_countTicksInARow 72 = .ok (.iconst 1, 1) := by decide +kernel
theorem dX0_countTicksInARow_73 : decode cX0_countTicksInARow 73 = .ok (.iadd, 1) := by decide +kernel
theorem dX0_countTicksInARow_74 : decode cX0_countTicksInARow 74 = .ok (.goto 4, 3) := by decide +kernel
theorem dX0_countTicksInARow_77 : decode cX0_countTicksInARow 77 = .ok (.iconst 0, 1) := by decide +kernel
theorem dX0_countTicksInARow_78 : decode cX0_countTicksInARow 78 = .ok (.putfield 130, 3) := by decide +kernel
theorem dX0_countTicksInARow_81 : decode cX0_countTicksInARow 81 = .ok (.aload_n 0, 1) := by decide +kernel
theorem dX0_countTicksInARow_82 : decode cX0_countTicksInARow 82 = .ok (.iload_n 1, 1) := by decide +kernel
theorem dX0_countTicksInARow_83 : decode cX0_countTicksInARow 83 = .ok (.ifCond .eq 16, 3) := by decide +kernel
theorem dX0_countTicksInARow_86 : decode cX0_countTicksInARow 86 = .ok (.iload_n 3, 1) := by decide +kernel
theorem dX0_countTicksInARow_87 : decode cX0_countTicksInARow 87 = .ok (.ifCond .eq 12, 3) := by decide +kernel
theorem dX0_countTicksInARow_90 : decode cX0_countTicksInARow 90 = .ok (.aload_n 0, 1) := by decide +kernel
theorem dX0_countTicksInARow_91 : decode cX0_countTicksInARow 91 = .ok (.getfield 133, 3) := by decide +kernel
theorem dX0_countTicksInARow_94 : decode cX0_countTicksInARow 94 = .ok (.iconst 1, 1) := by decide +kernel
theorem dX0_countTicksInARow_95 : decode cX0_countTicksInARow 95 = .ok (.iadd, 1) := by decide +kernel
theorem dX0_countTicksInARow_96 : decode cX0_countTicksInARow 96 = .ok (.goto 4, 3) := by decide +kernel
theorem dX0_countTicksInARow_99 : decode cX0_countTicksInARow 99 = .ok (.iconst 0, 1) := by decide +kernel
theorem dX0_countTicksInARow_100 : decode cX0_countTicksInARow 100 = .ok (.putfield 133, 3) := by decide +kernel
theorem dX0_countTicksInARow_103 : decode cX0_countTicksInARow 103 = .ok (.aload_n 0, 1) := by decide +kernel
theorem dX0_countTicksInARow_104 : decode cX0_countTicksInARow 104 = .ok (.iload 4, 2) := by decide +kernel
theorem dX0_countTicksInARow_106 : decode cX0_countTicksInARow 106 = .ok (.ifCond .eq 12, 3) := by decide +kernel
theorem dX0_countTicksInARow_109 : decode cX0_countTicksInARow 109 = .ok (.aload_n 0, 1) := by decide +kernel
theorem dX0_countTicksInARow_110 : decode cX0_countTicksInARow 110 = .ok (.getfield 136, 3) := by decide +kernel
theorem dX0_countTicksInARow_113 : decode cX0_countTicksInARow 113 = .ok (.iconst 1, 1) := by decide +kernel
theorem dX0_countTicksInARow_114 : decode cX0_countTicksInARow 114 = .ok (.iadd, 1) := by decide +kernel
theorem dX0_countTicksInARow_115 : decode cX0_countTicksInARow 115 = .ok (.goto 4, 3) := by decide +kernel
theorem dX0_countTicksInARow_118 : decode cX0_countTicksInARow 118 = .ok (.iconst 0, 1) := by decide +kernel
theorem dX0_countTicksInARow_119 : decode cX0_countTicksInARow 119 = .ok (.putfield 136, 3) := by decide +kernel
theorem dX0_countTicksInARow_122 : decode cX0_countTicksInARow 122 = .ok (.aload_n 0, 1) := by decide +kernel
theorem dX0_countTicksInARow_123 : decode cX0_countTicksInARow 123 = .ok (.iload 4, 2) := by decide +kernel
theorem dX0_countTicksInARow_125 : decode cX0_countTicksInARow 125 = .ok (.ifCond .eq 7, 3) := by decide +kernel
theorem dX0_countTicksInARow_128 : decode cX0_countTicksInARow 128 = .ok (.iconst 0, 1) := by decide +kernel
theorem dX0_countTicksInARow_129 : decode cX0_countTicksInARow 129 = .ok (.goto 9, 3) := by decide +kernel
theorem dX0_countTicksInARow_132 : decode cX0_countTicksInARow 132 = .ok (.aload_n 0, 1) := by decide +kernel
theorem dX0_countTicksInARow_133 : decode cX0_countTicksInARow 133 = .ok (.getfield 92, 3) := by decide +kernel
theorem dX0_countTicksInARow_136 : decode cX0_countTicksInARow 136 = .ok (.iconst 1, 1) := by decide +kernel
theorem dX0_countTicksInARow_137 : decode cX0_countTicksInARow 137 = .ok (.iadd, 1) := by decide +kernel
theorem dX0_countTicksInARow_138 : decode cX0_countTicksInARow 138 = .ok (.putfield 92, 3) := by decide +kernel
theorem dX0_countTicksInARow_141 : decode cX0_countTicksInARow 141 = .ok (.return_, 1) := by decide +kernel
theorem dX0_isConnected_0 : decode cX0_isConnected 0 = .ok (.aload_n 0, 1) := by decide +kernel
theorem dX0_isConnected_1 : decode cX0_isConnected 1 = .ok (.getfield 33, 3) := by decide +kernel
theorem dX0_isConnected_4 : decode cX0_isConnected 4 = .ok (.iconst 2, 1) := by decide +kernel
theorem dX0_isConnected_5 : decode cX0_isConnected 5 = .ok (.if_icmp .lt 15, 3) := by decide +kernel
theorem dX0_isConnected_8 : decode cX0_isConnected 8 = .ok (.aload_n 0, 1) := by decide +kernel
theorem dX0_isConnected_9 : decode cX0_isConnected 9 = .ok (.getfield 33, 3) := by decide +kernel
theorem dX0_isConnected_12 : decode cX0_isConnected 12 = .ok (.iconst 4, 1) := by decide +kernel
theorem dX0_isConnected_13 : decode cX0_isConnected 13 = .ok (.if_icmp .gt 7, 3) := by decide +kernel
theorem dX0_isConnected_16 : decode cX0_isConnected 16 = .ok (.iconst 1, 1) := by decide +kernel
theorem dX0_isConnected_17 : decode cX0_isConnected 17 = .ok (.goto 4, 3) := by decide +kernel
theorem dX0_isConnected_20 : decode cX0_isConnected 20 = .ok (.iconst 0, 1) := by decide +kernel
theorem dX0_isConnected_21 : decode cX0_isConnected 21 = .ok (.ireturn, 1) := by decide +kernel
theorem dX0_isFluidOff_0 : decode cX0_isFluidOff 0 = .ok (.aload_n 0, 1) := by decide +kernel
theorem dX0_isFluidOff_1 : decode cX0_isFluidOff 1 = .ok (.getfield 27, 3) := by decide +kernel
theorem dX0_isFluidOff_4 : decode cX0_isFluidOff 4 = .ok (.iconst 2, 1) := by decide +kernel
theorem dX0_isFluidOff_5 : decode cX0_isFluidOff 5 = .ok (.iaload, 1) := by decide +kernel
theorem dX0_isFluidOff_6 : decode cX0_isFluidOff 6 = .ok (.aload_n 0, 1) := by decide +kernel
theorem dX0_isFluidOff_7 : decode cX0_isFluidOff 7 = .ok (.getfield 18, 3) := by decide +kernel
theorem dX0_isFluidOff_10 : decode cX0_isFluidOff 10 = .ok (.iconst 4, 1) := by decide +kernel
theorem dX0_isFluidOff_11 : decode cX0_isFluidOff 11 = .ok (.iaload, 1) := by decide +kernel
theorem dX0_isFluidOff_12 : decode cX0_isFluidOff 12 = .ok (.isub, 1) := by decide +kernel
theorem dX0_isFluidOff_13 : decode cX0_isFluidOff 13 = .ok (.invokestatic 139, 3) := by decide +kernel
theorem dX0_isFluidOff_16 : decode cX0_isFluidOff 16 = .ok (.iconst 5, 1) := by decide +kernel
theorem dX0_isFluidOff_17 : decode cX0_isFluidOff 17 = .ok (.if_icmp .gt 24, 3) := by decide +kernel
theorem dX0_isFluidOff_20 : decode cX0_isFluidOff 20 = .ok (.aload_n 0, 1) := by decide +kernel
theorem dX0_isFluidOff_21 : decode cX0_isFluidOff 21 = .ok (.getfield 27, 3) := by decide +kernel
theorem dX0_isFluidOff_24 : decode cX0_isFluidOff 24 = .ok (.iconst 3, 1) := by decide +kernel
theorem dX0_isFluidOff_25 : decode cX0_isFluidOff 25 = .ok (.iaload, 1) := by decide +kernel
theorem dX0_isFluidOff_26 : decode cX0_isFluidOff 26 = .ok (.aload_n 0, 1) := by decide +kernel
theorem dX0_isFluidOff_27 : decode cX0_isFluidOff 27 = .ok (.getfield 18, 3) := by decide +kernel
theorem dX0_isFluidOff_30 : decode cX0_isFluidOff 30 = .ok (.iconst 5, 1) := by decide +kernel
theorem dX0_isFluidOff_31 : decode cX0_isFluidOff 31 = .ok (.iaload, 1) := by decide +kernel
theorem dX0_isFluidOff_32 : decode cX0_isFluidOff 32 = .ok (.isub, 1) := by decide +kernel
theorem dX0_isFluidOff_33 : decode cX0_isFluidOff 33 = .ok (.invokestatic 139, 3) := by decide +kernel
theorem dX0_isFluidOff_36 : decode cX0_isFluidOff 36 = .ok (.bipush 40, 2) := by decide +kernel
theorem dX0_isFluidOff_38 : decode cX0_isFluidOff 38 = .ok (.if_icmp .le 7, 3) := by decide +kernel
theorem dX0_isFluidOff_41 : decode cX0_isFluidOff 41 = .ok (.iconst 1, 1) := by decide +kernel
theorem dX0_isFluidOff_42 : decode cX0_isFluidOff 42 = .ok (.goto 4, 3) := by decide +kernel
theorem dX0_isFluidOff_45 : decode cX0_isFluidOff 45 = .ok (.iconst 0, 1) := by decide +kernel
theorem dX0_isFluidOff_46 : decode cX0_isFluidOff 46 = .ok (.ireturn, 1) := by decide +kernel
set_option maxRecDepth 20000 in
theorem ggX0_conditionsNow_X0_isConnected : GoodIn wsX0_conditionsNow wsX0_isConnected := goodIn_r _ [10, 4, 16, 17, 18, 19, 20, 21, 22, 23, 24, 25, 26, 27, 28, 29, 30, 31, 32, 33] (by decide +kernel) (by decide +kernel)
set_option maxRecDepth 20000 in
theorem gX0_conditionsNow_X0_isConnected : GoodIn wsX0_conditionsNow (wsV RX0 124 RX0 yX0_isConnected wsX0_isConnected) := goodIn_app (goodIn_of _ (by decide +kernel)) ggX0_conditionsNow_X0_isConnected
set_option maxRecDepth 20000 in
theorem ggX0_conditionsNow_X0_isSomeSensorFaulty : GoodIn wsX0_conditionsNow wsX0_isSomeSensorFaulty := goodIn_r _ [14, 15, 16, 17, 18, 19, 20, 21, 22, 23, 24, 25, 26, 27, 28, 29, 30, 31, 32, 33] (by decide +kernel) (by decide +kernel)
set_option maxRecDepth 20000 in
theorem gX0_conditionsNow_X0_isSomeSensorFaulty : GoodIn wsX0_conditionsNow (wsV RX0 144 RX0 yX0_isSomeSensorFaulty wsX0_isSomeSensorFaulty) := goodIn_app (goodIn_of _ (by decide +kernel)) ggX0_conditionsNow_X0_isSomeSensorFaulty
theorem dX0_conditionsNow_0 : decode cX0_conditionsNow 0 = .ok (.aload_n 0, 1) := by decide +kernel
theorem dX0_conditionsNow_1 : decode cX0_conditionsNow 1 = .ok (.getfield 130, 3) := by decide +kernel
theorem dX0_conditionsNow_4 : decode cX0_conditionsNow 4 = .ok (.bipush 30, 2) := by decide +kernel
theorem dX0_conditionsNow_6 : decode cX0_conditionsNow 6 = .ok (.if_icmp .lt 7, 3) := by decide +kernel
theorem dX0_conditionsNow_9 : decode cX0_conditionsNow 9 = .ok (.iconst 1, 1) := by decide +kernel
theorem dX0_conditionsNow_10 : decode cX0_conditionsNow 10 = .ok (.goto 4, 3) := by decide +kernel
theorem dX0_conditionsNow_13 : decode cX0_conditionsNow 13 = .ok (.iconst 0, 1) := by decide +kernel
theorem dX0_conditionsNow_14 : decode cX0_conditionsNow 14 = .ok (.aload_n 0, 1) := by decide +kernel
theorem dX0_conditionsNow_15 : decode cX0_conditionsNow 15 = .ok (.getfield 133, 3) := by decide +kernel
theorem dX0_conditionsNow_18 : decode cX0_conditionsNow 18 = .ok (.bipush 30, 2) := by decide +kernel
theorem dX0_conditionsNow_20 : decode cX0_conditionsNow 20 = .ok (.if_icmp .lt 7, 3) := by decide +kernel
theorem dX0_conditionsNow_23 : decode cX0_conditionsNow 23 = .ok (.iconst 2, 1) := by decide +kernel
theorem dX0_conditionsNow_24 : decode cX0_conditionsNow 24 = .ok (.goto 4, 3) := by decide +kernel
theorem dX0_conditionsNow_27 : decode cX0_conditionsNow 27 = .ok (.iconst 0, 1) := by decide +kernel
theorem dX0_conditionsNow_28 : decode cX0_conditionsNow 28 = .ok (.ior, 1) := by decide +kernel
theorem dX0_conditionsNow_29 : decode cX0_conditionsNow 29 = .ok (.aload_n 0, 1) := by decide +kernel
theorem dX0_conditionsNow_30 : decode cX0_conditionsNow 30 = .ok (.invokevirtual 124, 3) := by decide +kernel
theorem dX0_conditionsNow_33 : decode cX0_conditionsNow 33 = .ok (.ifCond .eq 17, 3) := by decide +kernel
theorem dX0_conditionsNow_36 : decode cX0_conditionsNow 36 = .ok (.aload_n 0, 1) := by decide +kernel
theorem dX0_conditionsNow_37 : decode cX0_conditionsNow 37 = .ok (.getfield 27, 3) := by decide +kernel
theorem dX0_conditionsNow_40 : decode cX0_conditionsNow 40 = .ok (.iconst 4, 1) := by decide +kernel
theorem dX0_conditionsNow_41 : decode cX0_conditionsNow 41 = .ok (.iaload, 1) := by decide +kernel
theorem dX0_conditionsNow_42 : decode cX0_conditionsNow 42 = .ok (.iconst 1, 1) := by decide +kernel
theorem dX0_conditionsNow_43 : decode cX0_conditionsNow 43 = .ok (.if_icmp .ne 7, 3) := by decide +kernel
theorem dX0_conditionsNow_46 : decode cX0_conditionsNow 46 = .ok (.iconst 4, 1) := by decide +kernel
theorem dX0_conditionsNow_47 : decode cX0_conditionsNow 47 = .ok (.goto 4, 3) := by decide +kernel
theorem dX0_conditionsNow_50 : decode cX0_conditionsNow 50 = .ok (.iconst 0, 1) := by decide +kernel
theorem dX0_conditionsNow_51 : decode cX0_conditionsNow 51 = .ok (.ior, 1) := by decide +kernel
theorem dX0_conditionsNow_52 : decode cX0_conditionsNow 52 = .ok (.aload_n 0, 1) := by decide +kernel
theorem dX0_conditionsNow_53 : decode cX0_conditionsNow 53 = .ok (.getfield 33, 3) := by decide +kernel
theorem dX0_conditionsNow_56 : decode cX0_conditionsNow 56 = .ok (.iconst 3, 1) := by decide +kernel
theorem dX0_conditionsNow_57 : decode cX0_conditionsNow 57 = .ok (.if_icmp .ne 18, 3) := by decide +kernel
theorem dX0_conditionsNow_60 : decode cX0_conditionsNow 60 = .ok (.aload_n 0, 1) := by decide +kernel
theorem dX0_conditionsNow_61 : decode cX0_conditionsNow 61 = .ok (.getfield 27, 3) := by decide +kernel
theorem dX0_conditionsNow_64 : decode cX0_conditionsNow 64 = .ok (.iconst 5, 1) := by decide +kernel
theorem dX0_conditionsNow_65 : decode cX0_conditionsNow 65 = .ok (.iaload, 1) := by decide +kernel
theorem dX0_conditionsNow_66 : decode cX0_conditionsNow 66 = .ok (.iconst 1, 1) := by decide +kernel
theorem dX0_conditionsNow_67 : decode cX0_conditionsNow 67 = .ok (.if_icmp .ne 8, 3) := by decide +kernel
theorem dX0_conditionsNow_70 : decode cX0_conditionsNow 70 = .ok (.bipush 8, 2) := by decide +kernel
theorem dX0_conditionsNow_72 : decode cX0_conditionsNow 72 = .ok (.goto 4, 3) := by decide +kernel
theorem dX0_conditionsNow_75 : decode cX0_conditionsNow 75 = .ok (.iconst 0, 1) := by decide +kernel
theorem dX0_conditionsNow_76 : decode cX0_conditionsNow 76 = .ok (.ior, 1) := by decide +kernel
theorem dX0_conditionsNow_77 : decode cX0_conditionsNow 77 = .ok (.aload_n 0, 1) := by decide +kernel
theorem dX0_conditionsNow_78 : decode cX0_conditionsNow 78 = .ok (.getfield 136, 3) := by decide +kernel
theorem dX0_conditionsNow_81 : decode cX0_conditionsNow 81 = .ok (.sipush 600, 3) := by decide +kernel
theorem dX0_conditionsNow_84 : decode cX0_conditionsNow 84 = .ok (.if_icmp .lt 8, 3) := by decide +kernel
theorem dX0_conditionsNow_87 : decode cX0_conditionsNow 87 = .ok (.bipush 16, 2) := by decide +kernel
theorem dX0_conditionsNow_89 : decode cX0_conditionsNow 89 = .ok (.goto 4, 3) := by decide +kernel
theorem dX0_conditionsNow_92 : decode cX0_conditionsNow 92 = .ok (.iconst 0, 1) := by decide +kernel
theorem dX0_conditionsNow_93 : decode cX0_conditionsNow 93 = .ok (.ior, 1) := by decide +kernel
theorem dX0_conditionsNow_94 : decode cX0_conditionsNow 94 = .ok (.aload_n 0, 1) := by decide +kernel
theorem dX0_conditionsNow_95 : decode cX0_conditionsNow 95 = .ok (.invokevirtual 144, 3) := by decide +kernel
theorem dX0_conditionsNow_98 : decode cX0_conditionsNow 98 = .ok (.ifCond .eq 8, 3) := by decide +kernel
theorem dX0_conditionsNow_101 : decode cX0_conditionsNow 101 = .ok (.bipush 32, 2) := by decide +kernel
theorem dX0_conditionsNow_103 : decode cX0_conditionsNow 103 = .ok (.goto 4, 3) := by decide +kernel
theorem dX0_conditionsNow_106 : decode cX0_conditionsNow 106 = .ok (.iconst 0, 1) := by decide +kernel
theorem dX0_conditionsNow_107 : decode cX0_conditionsNow 107 = .ok (.ior, 1) := by decide +kernel
theorem dX0_conditionsNow_108 : decode cX0_conditionsNow 108 = .ok (.ireturn, 1) := by decide +kernel
theorem dX0_isSomeSensorFaulty_0 : decode cX0_isSomeSensorFaulty 0 = .ok (.iconst 0, 1) := by decide +kernel
theorem dX0_isSomeSensorFaulty_1 : decode cX0_isSomeSensorFaulty 1 = .ok (.istore_n 1, 1) := by decide +kernel
theorem dX0_isSomeSensorFaulty_2 : decode cX0_isSomeSensorFaulty 2 = .ok (.iload_n 1, 1) := by decide +kernel
theorem dX0_isSomeSensorFaulty_3 : decode cX0_isSomeSensorFaulty 3 = .ok (.bipush 6, 2) := by decide +kernel
theorem dX0_isSomeSensorFaulty_5 : decode cX0_isSomeSensorFaulty 5 = .ok (.if_icmp .ge 21, 3) := by decide +kernel
theorem dX0_isSomeSensorFaulty_8 : decode cX0_isSomeSensorFaulty 8 = .ok (.aload_n 0, 1) := by decide +kernel
theorem dX0_isSomeSensorFaulty_9 : decode cX0_isSomeSensorFaulty 9 = .ok (.getfield 30, 3) := by decide +kernel
theorem dX0_isSomeSensorFaulty_12 : decode cX0_isSomeSensorFaulty 12 = .ok (.iload_n 1, 1) := by decide +kernel
theorem dX0_isSomeSensorFaulty_13 : decode cX0_isSomeSensorFaulty 13 = .ok (.iaload, 1) := by decide +kernel
theorem dX0_isSomeSensorFaulty_14 : decode cX0_isSomeSensorFaulty 14 = .ok (.iconst 3, 1) := by decide +kernel
theorem dX0_isSomeSensorFaulty_15 : decode cX0_isSomeSensorFaulty 15 = .ok (.if_icmp .lt 5, 3) := by decide +kernel
theorem dX0_isSomeSensorFaulty_18 : decode cX0_isSomeSensorFaulty 18 = .ok (.iconst 1, 1) := by decide +kernel
theorem dX0_isSomeSensorFaulty_19 : decode cX0_isSomeSensorFaulty 19 = .ok (.ireturn, 1) := by decide +kernel
theorem dX0_isSomeSensorFaulty_20 : decode cX0_isSomeSensorFaulty 20 = .ok (.iinc 1 1, 3) := by decide +kernel
theorem dX0_isSomeSensorFaulty_23 : decode cX0_isSomeSensorFaulty 23 = .ok (.goto (-21), 3) := by decide +kernel
theorem dX0_isSomeSensorFaulty_26 : decode cX0_isSomeSensorFaulty 26 = .ok (.iconst 0, 1) := by decide +kernel
theorem dX0_isSomeSensorFaulty_27 : decode cX0_isSomeSensorFaulty 27 = .ok (.ireturn, 1) := by decide +kernel
set_option maxRecDepth 20000 in
theorem ggX0_commandsOfControl_X0_isStrokeWanted : GoodIn wsX0_commandsOfControl wsX0_isStrokeWanted := goodIn_r _ [10, 11, 12, 4, 5, 13, 14, 15, 9, 16, 17, 18, 19, 20, 21, 22, 23, 24, 25, 26, 27, 28, 29, 30, 31, 32, 33, 34] (by decide +kernel) (by decide +kernel)
set_option maxRecDepth 20000 in
theorem gX0_commandsOfControl_X0_isStrokeWanted : GoodIn wsX0_commandsOfControl (wsV RX0 147 RX0 yX0_isStrokeWanted wsX0_isStrokeWanted) := goodIn_app (goodIn_of _ (by decide +kernel)) ggX0_commandsOfControl_X0_isStrokeWanted
theorem dX0_commandsOfControl_0 : decode cX0_commandsOfControl 0 = .ok (.aload_n 0, 1) := by decide +kernel
theorem dX0_commandsOfControl_1 : decode cX0_commandsOfControl 1 = .ok (.getfield 33, 3) := by decide +kernel
theorem dX0_commandsOfControl_4 : decode cX0_commandsOfControl 4 = .ok (.iconst 1, 1) := by decide +kernel
theorem dX0_commandsOfControl_5 : decode cX0_commandsOfControl 5 = .ok (.if_icmp .lt 15, 3) := by decide +kernel
theorem dX0_commandsOfControl_8 : decode cX0_commandsOfControl 8 = .ok (.aload_n 0, 1) := by decide +kernel
theorem dX0_commandsOfControl_9 : decode cX0_commandsOfControl 9 = .ok (.getfield 33, 3) := by decide +kernel
theorem dX0_commandsOfControl_12 : decode cX0_commandsOfControl 12 = .ok (.iconst 4, 1) := by decide +kernel
theorem dX0_commandsOfControl_13 : decode cX0_commandsOfControl 13 = .ok (.if_icmp .gt 7, 3) := by decide +kernel
theorem dX0_commandsOfControl_16 : decode cX0_commandsOfControl 16 = .ok (.iconst 1, 1) := by decide +kernel
theorem dX0_commandsOfControl_17 : decode cX0_commandsOfControl 17 = .ok (.goto 4, 3) := by decide +kernel
theorem dX0_commandsOfControl_20 : decode cX0_commandsOfControl 20 = .ok (.iconst 0, 1) := by decide +kernel
theorem dX0_commandsOfControl_21 : decode cX0_commandsOfControl 21 = .ok (.istore_n 1, 1) := by decide +kernel
theorem dX0_commandsOfControl_22 : decode cX0_commandsOfControl 22 = .ok (.iload_n 1, 1) := by decide +kernel
theorem dX0_commandsOfControl_23 : decode cX0_commandsOfControl 23 = .ok (.ifCond .eq 17, 3) := by decide +kernel
theorem dX0_commandsOfControl_26 : decode cX0_commandsOfControl 26 = .ok (.aload_n 0, 1) := by decide +kernel
theorem dX0_commandsOfControl_27 : decode cX0_commandsOfControl 27 = .ok (.getfield 65, 3) := by decide +kernel
theorem dX0_commandsOfControl_30 : decode cX0_commandsOfControl 30 = .ok (.bipush 47, 2) := by decide +kernel
theorem dX0_commandsOfControl_32 : decode cX0_commandsOfControl 32 = .ok (.iand, 1) := by decide +kernel
theorem dX0_commandsOfControl_33 : decode cX0_commandsOfControl 33 = .ok (.ifCond .ne 7, 3) := by decide +kernel
theorem dX0_commandsOfControl_36 : decode cX0_commandsOfControl 36 = .ok (.iconst 1, 1) := by decide +kernel
theorem dX0_commandsOfControl_37 : decode cX0_commandsOfControl 37 = .ok (.goto 4, 3) := by decide +kernel
theorem dX0_commandsOfControl_40 : decode cX0_commandsOfControl 40 = .ok (.iconst 0, 1) := by decide +kernel
theorem dX0_commandsOfControl_41 : decode cX0_commandsOfControl 41 = .ok (.istore_n 2, 1) := by decide +kernel
theorem dX0_commandsOfControl_42 : decode cX0_commandsOfControl 42 = .ok (.iload_n 1, 1) := by decide +kernel
theorem dX0_commandsOfControl_43 : decode cX0_commandsOfControl 43 = .ok (.ifCond .eq 17, 3) := by decide +kernel
theorem dX0_commandsOfControl_46 : decode cX0_commandsOfControl 46 = .ok (.aload_n 0, 1) := by decide +kernel
theorem dX0_commandsOfControl_47 : decode cX0_commandsOfControl 47 = .ok (.getfield 65, 3) := by decide +kernel
theorem dX0_commandsOfControl_50 : decode cX0_commandsOfControl 50 = .ok (.bipush 38, 2) := by decide +kernel
theorem dX0_commandsOfControl_52 : decode cX0_commandsOfControl 52 = .ok (.iand, 1) := by decide +kernel
theorem dX0_commandsOfControl_53 : decode cX0_commandsOfControl 53 = .ok (.ifCond .ne 7, 3) := by decide +kernel
theorem dX0_commandsOfControl_56 : decode cX0_commandsOfControl 56 = .ok (.iconst 1, 1) := by decide +kernel
theorem dX0_commandsOfControl_57 : decode cX0_commandsOfControl 57 = .ok (.goto 4, 3) := by decide +kernel
theorem dX0_commandsOfControl_60 : decode cX0_commandsOfControl 60 = .ok (.iconst 0, 1) := by decide +kernel
theorem dX0_commandsOfControl_61 : decode cX0_commandsOfControl 61 = .ok (.istore_n 3, 1) := by decide +kernel
theorem dX0_commandsOfControl_62 : decode cX0_commandsOfControl 62 = .ok (.aload_n 0, 1) := by decide +kernel
theorem dX0_commandsOfControl_63 : decode cX0_commandsOfControl 63 = .ok (.getfield 33, 3) := by decide +kernel
theorem dX0_commandsOfControl_66 : decode cX0_commandsOfControl 66 = .ok (.iconst 3, 1) := by decide +kernel
theorem dX0_commandsOfControl_67 : decode cX0_commandsOfControl 67 = .ok (.if_icmp .ne 20, 3) := by decide +kernel
theorem dX0_commandsOfControl_70 : decode cX0_commandsOfControl 70 = .ok (.aload_n 0, 1) := by decide +kernel
theorem dX0_commandsOfControl_71 : decode cX0_commandsOfControl 71 = .ok (.getfield 136, 3) := by decide +kernel
theorem dX0_commandsOfControl_74 : decode cX0_commandsOfControl 74 = .ok (.ifCond .gt 13, 3) := by decide +kernel
theorem dX0_commandsOfControl_77 : decode cX0_commandsOfControl 77 = .ok (.aload_n 0, 1) := by decide +kernel
theorem dX0_commandsOfControl_78 : decode cX0_commandsOfControl 78 = .ok (.getfield 65, 3) := by decide +kernel
theorem dX0_commandsOfControl_81 : decode cX0_commandsOfControl 81 = .ok (.bipush 8, 2) := by decide +kernel
theorem dX0_commandsOfControl_83 : decode cX0_commandsOfControl 83 = .ok (.iand, 1) := by decide +kernel
theorem dX0_commandsOfControl_84 : decode cX0_commandsOfControl 84 = .ok (.ifCond .eq 7, 3) := by decide +kernel
theorem dX0_commandsOfControl_87 : decode cX0_commandsOfControl 87 = .ok (.iconst 1, 1) := by decide +kernel
theorem dX0_commandsOfControl_88 : decode cX0_commandsOfControl 88 = .ok (.goto 4, 3) := by decide +kernel
theorem dX0_commandsOfControl_91 : decode cX0_commandsOfControl 91 = .ok (.iconst 0, 1) := by decide +kernel
theorem dX0_commandsOfControl_92 : decode cX0_commandsOfControl 92 = .ok (.istore 4, 2) := by decide +kernel
theorem dX0_commandsOfControl_94 : decode cX0_commandsOfControl 94 = .ok (.iconst 0, 1) := by decide +kernel
theorem dX0_commandsOfControl_95 : decode cX0_commandsOfControl 95 = .ok (.istore 5, 2) := by decide +kernel
theorem dX0_commandsOfControl_97 : decode cX0_commandsOfControl 97 = .ok (.iload_n 2, 1) := by decide +kernel
theorem dX0_commandsOfControl_98 : decode cX0_commandsOfControl 98 = .ok (.ifCond .eq 24, 3) := by decide +kernel
theorem dX0_commandsOfControl_101 : decode cX0_commandsOfControl 101 = .ok (.iload 4, 2) := by decide +kernel
theorem dX0_commandsOfControl_103 : decode cX0_commandsOfControl 103 = .ok (.ifCond .ne 19, 3) := by decide +kernel
theorem dX0_commandsOfControl_106 : decode cX0_commandsOfControl 106 = .ok (.aload_n 0, 1) := by decide +kernel
theorem dX0_commandsOfControl_107 : decode cX0_commandsOfControl 107 = .ok (.dup, 1) := by decide +kernel
theorem dX0_commandsOfControl_108 : decode cX0_commandsOfControl 108 = .ok (.getfield 77, 3) := by decide +kernel
theorem dX0_commandsOfControl_111 : decode cX0_commandsOfControl 111 = .ok (.iconst 1, 1) := by decide +kernel
theorem dX0_commandsOfControl_112 : decode cX0_commandsOfControl 112 = .ok (.iadd, 1) := by decide +kernel
theorem dX0_commandsOfControl_113 : decode cX0_commandsOfControl 113 = .ok (.putfield 77, 3) := by decide +kernel
theorem dX0_commandsOfControl_116 : decode cX0_commandsOfControl 116 = .ok (.aload_n 0, 1) := by decide +kernel
theorem dX0_commandsOfControl_117 : decode cX0_commandsOfControl 117 = .ok (.invokevirtual 147, 3) := by decide +kernel
theorem dX0_commandsOfControl_120 : decode cX0_commandsOfControl 120 = .ok (.istore 5, 2) := by decide +kernel
theorem dX0_commandsOfControl_122 : decode cX0_commandsOfControl 122 = .ok (.iload 5, 2) := by decide +kernel
theorem dX0_commandsOfControl_124 : decode cX0_commandsOfControl 124 = .ok (.ifCond .eq 15, 3) := by decide +kernel
theorem dX0_commandsOfControl_127 : decode cX0_commandsOfControl 127 = .ok (.aload_n 0, 1) := by decide +kernel
theorem dX0_commandsOfControl_128 : decode cX0_commandsOfControl 128 = .ok (.dup, 1) := by decide +kernel
theorem dX0_commandsOfControl_129 : decode cX0_commandsOfControl 129 = .ok (.getfield 80, 3) := by decide +kernel
theorem dX0_commandsOfControl_132 : decode cX0_commandsOfControl 132 = .ok (.sipush 500, 3) := by decide +kernel
theorem dX0_commandsOfControl_135 : decode cX0_commandsOfControl 135 = .ok (.iadd, 1) := by decide +kernel
theorem dX0_commandsOfControl_136 : decode cX0_commandsOfControl 136 = .ok (.putfield 80, 3) := by decide +kernel
theorem dX0_commandsOfControl_139 : decode cX0_commandsOfControl 139 = .ok (.iload_n 2, 1) := by decide +kernel
theorem dX0_commandsOfControl_140 : decode cX0_commandsOfControl 140 = .ok (.ifCond .eq 7, 3) := by decide +kernel
theorem dX0_commandsOfControl_143 : decode cX0_commandsOfControl 143 = .ok (.iconst 1, 1) := by decide +kernel
theorem dX0_commandsOfControl_144 : decode cX0_commandsOfControl 144 = .ok (.goto 4, 3) := by decide +kernel
theorem dX0_commandsOfControl_147 : decode cX0_commandsOfControl 147 = .ok (.iconst 0, 1) := by decide +kernel
theorem dX0_commandsOfControl_148 : decode cX0_commandsOfControl 148 = .ok (.iload_n 3, 1) := by decide +kernel
theorem dX0_commandsOfControl_149 : decode cX0_commandsOfControl 149 = .ok (.ifCond .eq 7, 3) := by decide +kernel
theorem dX0_commandsOfControl_152 : decode cX0_commandsOfControl 152 = .ok (.iconst 2, 1) := by decide +kernel
theorem dX0_commandsOfControl_153 : decode cX0_commandsOfControl 153 = .ok (.goto 4, 3) := by decide +kernel
theorem dX0_commandsOfControl_156 : decode cX0_commandsOfControl 156 = .ok (.iconst 0, 1) := by decide +kernel
theorem dX0_commandsOfControl_157 : decode cX0_commandsOfControl 157 = .ok (.ior, 1) := by decide +kernel
theorem dX0_commandsOfControl_158 : decode cX0_commandsOfControl 158 = .ok (.iload 4, 2) := by decide +kernel
theorem dX0_commandsOfControl_160 : decode cX0_commandsOfControl 160 = .ok (.ifCond .eq 7, 3) := by decide +kernel
theorem dX0_commandsOfControl_163 : decode cX0_commandsOfControl 163 = .ok (.iconst 4, 1) := by decide +kernel
theorem dX0_commandsOfControl_164 : decode cX0_commandsOfControl 164 = .ok (.goto 4, 3) := by decide +kernel
theorem dX0_commandsOfControl_167 : decode cX0_commandsOfControl 167 = .ok (.iconst 0, 1) := by decide +kernel
theorem dX0_commandsOfControl_168 : decode cX0_commandsOfControl 168 = .ok (.ior, 1) := by decide +kernel
theorem dX0_commandsOfControl_169 : decode cX0_commandsOfControl 169 = .ok (.iload 5, 2) := by decide +kernel
theorem dX0_commandsOfControl_171 : decode cX0_commandsOfControl 171 = .ok (.ifCond .eq 8, 3) := by decide +kernel
theorem dX0_commandsOfControl_174 : decode cX0_commandsOfControl 174 = .ok (.bipush 8, 2) := by decide +kernel
theorem dX0_commandsOfControl_176 : decode cX0_commandsOfControl 176 = .ok (.goto 4, 3) := by decide +kernel
theorem dX0_commandsOfControl_179 : decode cX0_commandsOfControl 179 = .ok (.iconst 0, 1) := by decide +kernel
theorem dX0_commandsOfControl_180 : decode cX0_commandsOfControl 180 = .ok (.ior, 1) := by decide +kernel
theorem dX0_commandsOfControl_181 : decode cX0_commandsOfControl 181 = .ok (.ireturn, 1) := by decide +kernel
set_option maxRecDepth 20000 in
theorem ggX0_isStrokeWanted_X0_ticksOfTreatment : GoodIn wsX0_isStrokeWanted wsX0_ticksOfTreatment := goodIn_r _ [9, 1, 10, 11, 12, 13, 14, 15, 16, 17, 18, 19, 20, 21, 22, 23, 24, 25, 26, 27] (by decide +kernel) (by decide +kernel)
set_option maxRecDepth 20000 in
theorem gX0_isStrokeWanted_X0_ticksOfTreatment : GoodIn wsX0_isStrokeWanted (wsV RX0 152 RX0 yX0_ticksOfTreatment wsX0_ticksOfTreatment) := goodIn_app (goodIn_of _ (by decide +kernel)) ggX0_isStrokeWanted_X0_ticksOfTreatment
theorem dX0_isStrokeWanted_0 : decode cX0_isStrokeWanted 0 = .ok (.aload_n 0, 1) := by decide +kernel
theorem dX0_isStrokeWanted_1 : decode cX0_isStrokeWanted 1 = .ok (.getfield 18, 3) := by decide +kernel
theorem dX0_isStrokeWanted_4 : decode cX0_isStrokeWanted 4 = .ok (.iconst 1, 1) := by decide +kernel
theorem dX0_isStrokeWanted_5 : decode cX0_isStrokeWanted 5 = .ok (.iaload, 1) := by decide +kernel
theorem dX0_isStrokeWanted_6 : decode cX0_isStrokeWanted 6 = .ok (.i2l, 1) := by decide +kernel
theorem dX0_isStrokeWanted_7 : decode cX0_isStrokeWanted 7 = .ok (.ldc2_w 150, 3) := by decide +kernel
theorem dX0_isStrokeWanted_10 : decode cX0_isStrokeWanted 10 = .ok (.lmul, 1) := by decide +kernel
theorem dX0_isStrokeWanted_11 : decode cX0_isStrokeWanted 11 = .ok (.aload_n 0, 1) := by decide +kernel
theorem dX0_isStrokeWanted_12 : decode cX0_isStrokeWanted 12 = .ok (.getfield 77, 3) := by decide +kernel
theorem dX0_isStrokeWanted_15 : decode cX0_isStrokeWanted 15 = .ok (.i2l, 1) := by decide +kernel
theorem dX0_isStrokeWanted_16 : decode cX0_isStrokeWanted 16 = .ok (.lmul, 1) := by decide +kernel
theorem dX0_isStrokeWanted_17 : decode cX0_isStrokeWanted 17 = .ok (.lstore_n 1, 1) := by decide +kernel
theorem dX0_isStrokeWanted_18 : decode cX0_isStrokeWanted 18 = .ok (.lload_n 1, 1) := by decide +kernel
theorem dX0_isStrokeWanted_19 : decode cX0_isStrokeWanted 19 = .ok (.aload_n 0, 1) := by decide +kernel
theorem dX0_isStrokeWanted_20 : decode cX0_isStrokeWanted 20 = .ok (.getfield 80, 3) := by decide +kernel
theorem dX0_isStrokeWanted_23 : decode cX0_isStrokeWanted 23 = .ok (.sipush 500, 3) := by decide +kernel
theorem dX0_isStrokeWanted_26 : decode cX0_isStrokeWanted 26 = .ok (.iadd, 1) := by decide +kernel
theorem dX0_isStrokeWanted_27 : decode cX0_isStrokeWanted 27 = .ok (.i2l, 1) := by decide +kernel
theorem dX0_isStrokeWanted_28 : decode cX0_isStrokeWanted 28 = .ok (.aload_n 0, 1) := by decide +kernel
theorem dX0_isStrokeWanted_29 : decode cX0_isStrokeWanted 29 = .ok (.invokevirtual 152, 3) := by decide +kernel
theorem dX0_isStrokeWanted_32 : decode cX0_isStrokeWanted 32 = .ok (.i2l, 1) := by decide +kernel
theorem dX0_isStrokeWanted_33 : decode cX0_isStrokeWanted 33 = .ok (.lmul, 1) := by decide +kernel
theorem dX0_isStrokeWanted_34 : decode cX0_isStrokeWanted 34 = .ok (.lcmp, 1) := by decide +kernel
theorem dX0_isStrokeWanted_35 : decode cX0_isStrokeWanted 35 = .ok (.ifCond .lt 7, 3) := by decide +kernel
theorem dX0_isStrokeWanted_38 : decode cX0_isStrokeWanted 38 = .ok (.iconst 1, 1) := by decide +kernel
theorem dX0_isStrokeWanted_39 : decode cX0_isStrokeWanted 39 = .ok (.goto 4, 3) := by decide +kernel
theorem dX0_isStrokeWanted_42 : decode cX0_isStrokeWanted 42 = .ok (.iconst 0, 1) := by decide +kernel
theorem dX0_isStrokeWanted_43 : decode cX0_isStrokeWanted 43 = .ok (.ireturn, 1) := by decide +kernel
theorem dX0_ticksOfTreatment_0 : decode cX0_ticksOfTreatment 0 = .ok (.sipush 600, 3) := by decide +kernel
theorem dX0_ticksOfTreatment_3 : decode cX0_ticksOfTreatment 3 = .ok (.aload_n 0, 1) := by decide +kernel
theorem dX0_ticksOfTreatment_4 : decode cX0_ticksOfTreatment 4 = .ok (.getfield 18, 3) := by decide +kernel
theorem dX0_ticksOfTreatment_7 : decode cX0_ticksOfTreatment 7 = .ok (.iconst 3, 1) := by decide +kernel
theorem dX0_ticksOfTreatment_8 : decode cX0_ticksOfTreatment 8 = .ok (.iaload, 1) := by decide +kernel
theorem dX0_ticksOfTreatment_9 : decode cX0_ticksOfTreatment 9 = .ok (.imul, 1) := by decide +kernel
theorem dX0_ticksOfTreatment_10 : decode cX0_ticksOfTreatment 10 = .ok (.ireturn, 1) := by decide +kernel
set_option maxRecDepth 20000 in
theorem ggX0_afterProtection_X0_isConnected : GoodIn wsX0_afterProtection wsX0_isConnected := goodIn_r _ [8, 2, 22, 23, 24, 25, 26, 27, 28, 29, 30, 31, 32, 33, 34, 35, 36, 37, 38, 39] (by decide +kernel) (by decide +kernel)
set_option maxRecDepth 20000 in
theorem gX0_afterProtection_X0_isConnected : GoodIn wsX0_afterProtection (wsV RX0 124 RX0 yX0_isConnected wsX0_isConnected) := goodIn_app (goodIn_of _ (by decide +kernel)) ggX0_afterProtection_X0_isConnected
set_option maxRecDepth 20000 in
theorem ggX0_afterProtection_X0_isRawDangerous : GoodIn wsX0_afterProtection wsX0_isRawDangerous := goodIn_r _ [12, 3, 13, 14, 7, 15, 22, 23, 24, 25, 26, 27, 28, 29, 30, 31, 32, 33, 34, 35, 36, 37, 38, 39] (by decide +kernel) (by decide +kernel)
set_option maxRecDepth 20000 in
theorem gX0_afterProtection_X0_isRawDangerous : GoodIn wsX0_afterProtection (wsV RX0 155 RX0 yX0_isRawDangerous wsX0_isRawDangerous) := goodIn_app (goodIn_of _ (by decide +kernel)) ggX0_afterProtection_X0_isRawDangerous
set_option maxRecDepth 20000 in
theorem ggX0_afterProtection_X0_isStrokeTooMuch : GoodIn wsX0_afterProtection wsX0_isStrokeTooMuch := goodIn_r _ [19, 20, 21, 22, 23, 24, 25, 26, 27, 28, 29, 30, 31, 32, 33, 34, 35, 36, 37, 38, 39] (by decide +kernel) (by decide +kernel)
set_option maxRecDepth 20000 in
theorem gX0_afterProtection_X0_isStrokeTooMuch : GoodIn wsX0_afterProtection (wsV RX0 158 RX0 yX0_isStrokeTooMuch wsX0_isStrokeTooMuch) := goodIn_app (goodIn_of _ (by decide +kernel)) ggX0_afterProtection_X0_isStrokeTooMuch
theorem dX0_afterProtection_0 : decode cX0_afterProtection 0 = .ok (.iload_n 1, 1) := by decide +kernel
theorem dX0_afterProtection_1 : decode cX0_afterProtection 1 = .ok (.istore_n 2, 1) := by decide +kernel
theorem dX0_afterProtection_2 : decode cX0_afterProtection 2 = .ok (.aload_n 0, 1) := by decide +kernel
theorem dX0_afterProtection_3 : decode cX0_afterProtection 3 = .ok (.invokevirtual 124, 3) := by decide +kernel
theorem dX0_afterProtection_6 : decode cX0_afterProtection 6 = .ok (.ifCond .eq 25, 3) := by decide +kernel
theorem dX0_afterProtection_9 : decode cX0_afterProtection 9 = .ok (.aload_n 0, 1) := by decide +kernel
theorem dX0_afterProtection_10 : decode cX0_afterProtection 10 = .ok (.invokevirtual 155, 3) := by decide +kernel
theorem dX0_afterProtection_13 : decode cX0_afterProtection 13 = .ok (.ifCond .eq 18, 3) := by decide +kernel
theorem dX0_afterProtection_16 : decode cX0_afterProtection 16 = .ok (.aload_n 0, 1) := by decide +kernel
theorem dX0_afterProtection_17 : decode cX0_afterProtection 17 = .ok (.dup, 1) := by decide +kernel
theorem dX0_afterProtection_18 : decode cX0_afterProtection 18 = .ok (.getfield 86, 3) := by decide +kernel
theorem dX0_afterProtection_21 : decode cX0_afterProtection 21 = .ok (.iconst 1, 1) := by decide +kernel
theorem dX0_afterProtection_22 : decode cX0_afterProtection 22 = .ok (.iadd, 1) := by decide +kernel
theorem dX0_afterProtection_23 : decode cX0_afterProtection 23 = .ok (.putfield 86, 3) := by decide +kernel
theorem dX0_afterProtection_26 : decode cX0_afterProtection 26 = .ok (.iload_n 2, 1) := by decide +kernel
theorem dX0_afterProtection_27 : decode cX0_afterProtection 27 = .ok (.bipush (-12), 2) := by decide +kernel
theorem dX0_afterProtection_29 : decode cX0_afterProtection 29 = .ok (.iand, 1) := by decide +kernel
theorem dX0_afterProtection_30 : decode cX0_afterProtection 30 = .ok (.istore_n 2, 1) := by decide +kernel
theorem dX0_afterProtection_31 : decode cX0_afterProtection 31 = .ok (.aload_n 0, 1) := by decide +kernel
theorem dX0_afterProtection_32 : decode cX0_afterProtection 32 = .ok (.getfield 33, 3) := by decide +kernel
theorem dX0_afterProtection_35 : decode cX0_afterProtection 35 = .ok (.iconst 3, 1) := by decide +kernel
theorem dX0_afterProtection_36 : decode cX0_afterProtection 36 = .ok (.if_icmp .ne 19, 3) := by decide +kernel
theorem dX0_afterProtection_39 : decode cX0_afterProtection 39 = .ok (.aload_n 0, 1) := by decide +kernel
theorem dX0_afterProtection_40 : decode cX0_afterProtection 40 = .ok (.getfield 24, 3) := by decide +kernel
theorem dX0_afterProtection_43 : decode cX0_afterProtection 43 = .ok (.iconst 2, 1) := by decide +kernel
theorem dX0_afterProtection_44 : decode cX0_afterProtection 44 = .ok (.iaload, 1) := by decide +kernel
theorem dX0_afterProtection_45 : decode cX0_afterProtection 45 = .ok (.sipush 410, 3) := by decide +kernel
theorem dX0_afterProtection_48 : decode cX0_afterProtection 48 = .ok (.if_icmp .le 7, 3) := by decide +kernel
theorem dX0_afterProtection_51 : decode cX0_afterProtection 51 = .ok (.iload_n 2, 1) := by decide +kernel
theorem dX0_afterProtection_52 : decode cX0_afterProtection 52 = .ok (.iconst 4, 1) := by decide +kernel
theorem dX0_afterProtection_53 : decode cX0_afterProtection 53 = .ok (.ior, 1) := by decide +kernel
theorem dX0_afterProtection_54 : decode cX0_afterProtection 54 = .ok (.istore_n 2, 1) := by decide +kernel
theorem dX0_afterProtection_55 : decode cX0_afterProtection 55 = .ok (.aload_n 0, 1) := by decide +kernel
theorem dX0_afterProtection_56 : decode cX0_afterProtection 56 = .ok (.getfield 33, 3) := by decide +kernel
theorem dX0_afterProtection_59 : decode cX0_afterProtection 59 = .ok (.iconst 3, 1) := by decide +kernel
theorem dX0_afterProtection_60 : decode cX0_afterProtection 60 = .ok (.if_icmp .ne 10, 3) := by decide +kernel
theorem dX0_afterProtection_63 : decode cX0_afterProtection 63 = .ok (.aload_n 0, 1) := by decide +kernel
theorem dX0_afterProtection_64 : decode cX0_afterProtection 64 = .ok (.invokevirtual 158, 3) := by decide +kernel
theorem dX0_afterProtection_67 : decode cX0_afterProtection 67 = .ok (.ifCond .eq 8, 3) := by decide +kernel
theorem dX0_afterProtection_70 : decode cX0_afterProtection 70 = .ok (.iload_n 2, 1) := by decide +kernel
theorem dX0_afterProtection_71 : decode cX0_afterProtection 71 = .ok (.bipush (-9), 2) := by decide +kernel
theorem dX0_afterProtection_73 : decode cX0_afterProtection 73 = .ok (.iand, 1) := by decide +kernel
theorem dX0_afterProtection_74 : decode cX0_afterProtection 74 = .ok (.istore_n 2, 1) := by decide +kernel
theorem dX0_afterProtection_75 : decode cX0_afterProtection 75 = .ok (.iload_n 2, 1) := by decide +kernel
theorem dX0_afterProtection_76 : decode cX0_afterProtection 76 = .ok (.ireturn, 1) := by decide +kernel
set_option maxRecDepth 20000 in
theorem ggX0_isRawDangerous_X0_isOutside : GoodIn wsX0_isRawDangerous wsX0_isOutside := goodIn_r _ [5] (by decide +kernel) (by decide +kernel)
set_option maxRecDepth 20000 in
theorem gX0_isRawDangerous_X0_isOutside : GoodIn wsX0_isRawDangerous (va_wsS RX0 50 yX0_isOutside wsX0_isOutside) := goodIn_app (goodIn_of _ (by decide +kernel)) ggX0_isRawDangerous_X0_isOutside
theorem dX0_isRawDangerous_0 : decode cX0_isRawDangerous 0 = .ok (.aload_n 0, 1) := by decide +kernel
theorem dX0_isRawDangerous_1 : decode cX0_isRawDangerous 1 = .ok (.getfield 24, 3) := by decide +kernel
theorem dX0_isRawDangerous_4 : decode cX0_isRawDangerous 4 = .ok (.iconst 4, 1) := by decide +kernel
theorem dX0_isRawDangerous_5 : decode cX0_isRawDangerous 5 = .ok (.iaload, 1) := by decide +kernel
theorem dX0_isRawDangerous_6 : decode cX0_isRawDangerous 6 = .ok (.ifCond .ne 38, 3) := by decide +kernel
theorem dX0_isRawDangerous_9 : decode cX0_isRawDangerous 9 = .ok (.aload_n 0, 1) := by decide +kernel
theorem dX0_isRawDangerous_10 : decode cX0_isRawDangerous 10 = .ok (.getfield 24, 3) := by decide +kernel
theorem dX0_isRawDangerous_13 : decode cX0_isRawDangerous 13 = .ok (.iconst 0, 1) := by decide +kernel
theorem dX0_isRawDangerous_14 : decode cX0_isRawDangerous 14 = .ok (.iaload, 1) := by decide +kernel
theorem dX0_isRawDangerous_15 : decode cX0_isRawDangerous 15 = .ok (.sipush (-350), 3) := by decide +kernel
theorem dX0_isRawDangerous_18 : decode cX0_isRawDangerous 18 = .ok (.sipush 250, 3) := by decide +kernel
theorem dX0_isRawDangerous_21 : decode cX0_isRawDangerous 21 = .ok (.invokestatic 50, 3) := by decide +kernel
theorem dX0_isRawDangerous_24 : decode cX0_isRawDangerous 24 = .ok (.ifCond .ne 20, 3) := by decide +kernel
theorem dX0_isRawDangerous_27 : decode cX0_isRawDangerous 27 = .ok (.aload_n 0, 1) := by decide +kernel
theorem dX0_isRawDangerous_28 : decode cX0_isRawDangerous 28 = .ok (.getfield 24, 3) := by decide +kernel
theorem dX0_isRawDangerous_31 : decode cX0_isRawDangerous 31 = .ok (.iconst 1, 1) := by decide +kernel
theorem dX0_isRawDangerous_32 : decode cX0_isRawDangerous 32 = .ok (.iaload, 1) := by decide +kernel
theorem dX0_isRawDangerous_33 : decode cX0_isRawDangerous 33 = .ok (.bipush (-50), 2) := by decide +kernel
theorem dX0_isRawDangerous_35 : decode cX0_isRawDangerous 35 = .ok (.sipush 450, 3) := by decide +kernel
theorem dX0_isRawDangerous_38 : decode cX0_isRawDangerous 38 = .ok (.invokestatic 50, 3) := by decide +kernel
theorem dX0_isRawDangerous_41 : decode cX0_isRawDangerous 41 = .ok (.ifCond .eq 7, 3) := by decide +kernel
theorem dX0_isRawDangerous_44 : decode cX0_isRawDangerous 44 = .ok (.iconst 1, 1) := by decide +kernel
theorem dX0_isRawDangerous_45 : decode cX0_isRawDangerous 45 = .ok (.goto 4, 3) := by decide +kernel
theorem dX0_isRawDangerous_48 : decode cX0_isRawDangerous 48 = .ok (.iconst 0, 1) := by decide +kernel
theorem dX0_isRawDangerous_49 : decode cX0_isRawDangerous 49 = .ok (.ireturn, 1) := by decide +kernel
theorem dX0_isStrokeTooMuch_0 : decode cX0_isStrokeTooMuch 0 = .ok (.aload_n 0, 1) := by decide +kernel
theorem dX0_isStrokeTooMuch_1 : decode cX0_isStrokeTooMuch 1 = .ok (.getfield 83, 3) := by decide +kernel
theorem dX0_isStrokeTooMuch_4 : decode cX0_isStrokeTooMuch 4 = .ok (.iconst 1, 1) := by decide +kernel
theorem dX0_isStrokeTooMuch_5 : decode cX0_isStrokeTooMuch 5 = .ok (.iadd, 1) := by decide +kernel
theorem dX0_isStrokeTooMuch_6 : decode cX0_isStrokeTooMuch 6 = .ok (.sipush 500, 3) := by decide +kernel
theorem dX0_isStrokeTooMuch_9 : decode cX0_isStrokeTooMuch 9 = .ok (.imul, 1) := by decide +kernel
theorem dX0_isStrokeTooMuch_10 : decode cX0_isStrokeTooMuch 10 = .ok (.aload_n 0, 1) := by decide +kernel
theorem dX0_isStrokeTooMuch_11 : decode cX0_isStrokeTooMuch 11 = .ok (.getfield 18, 3) := by decide +kernel
theorem dX0_isStrokeTooMuch_14 : decode cX0_isStrokeTooMuch 14 = .ok (.iconst 1, 1) := by decide +kernel
theorem dX0_isStrokeTooMuch_15 : decode cX0_isStrokeTooMuch 15 = .ok (.iaload, 1) := by decide +kernel
theorem dX0_isStrokeTooMuch_16 : decode cX0_isStrokeTooMuch 16 = .ok (.sipush 1000, 3) := by decide +kernel
theorem dX0_isStrokeTooMuch_19 : decode cX0_isStrokeTooMuch 19 = .ok (.imul, 1) := by decide +kernel
theorem dX0_isStrokeTooMuch_20 : decode cX0_isStrokeTooMuch 20 = .ok (.sipush 500, 3) := by decide +kernel
theorem dX0_isStrokeTooMuch_23 : decode cX0_isStrokeTooMuch 23 = .ok (.iadd, 1) := by decide +kernel
theorem dX0_isStrokeTooMuch_24 : decode cX0_isStrokeTooMuch 24 = .ok (.if_icmp .le 7, 3) := by decide +kernel
theorem dX0_isStrokeTooMuch_27 : decode cX0_isStrokeTooMuch 27 = .ok (.iconst 1, 1) := by decide +kernel
theorem dX0_isStrokeTooMuch_28 : decode cX0_isStrokeTooMuch 28 = .ok (.goto 4, 3) := by decide +kernel
theorem dX0_isStrokeTooMuch_31 : decode cX0_isStrokeTooMuch 31 = .ok (.iconst 0, 1) := by decide +kernel
theorem dX0_isStrokeTooMuch_32 : decode cX0_isStrokeTooMuch 32 = .ok (.ireturn, 1) := by decide +kernel
set_option maxRecDepth 20000 in
theorem ggX0_countTowardsEnd_X0_ticksOfTreatment : GoodIn wsX0_countTowardsEnd wsX0_ticksOfTreatment := goodIn_r _ [9, 10, 17, 18, 19, 20, 21, 22, 23, 24, 25, 26, 27, 28, 29, 30, 31, 32, 33, 34] (by decide +kernel) (by decide +kernel)
set_option maxRecDepth 20000 in
theorem gX0_countTowardsEnd_X0_ticksOfTreatment : GoodIn wsX0_countTowardsEnd (wsV RX0 152 RX0 yX0_ticksOfTreatment wsX0_ticksOfTreatment) := goodIn_app (goodIn_of _ (by decide +kernel)) ggX0_countTowardsEnd_X0_ticksOfTreatment
set_option maxRecDepth 20000 in
theorem ggX0_countTowardsEnd_X0_beginPhase : GoodIn wsX0_countTowardsEnd wsX0_beginPhase := goodIn_r _ [14, 1, 3, 4, 15, 16, 17, 18, 19, 20, 21, 22, 23, 24, 25, 26, 27, 28, 29, 30, 31, 32, 33, 34] (by decide +kernel) (by decide +kernel)
set_option maxRecDepth 20000 in
theorem gX0_countTowardsEnd_X0_beginPhase : GoodIn wsX0_countTowardsEnd (wsV RX0 61 RX0 yX0_beginPhase wsX0_beginPhase) := goodIn_app (goodIn_of _ (by decide +kernel)) ggX0_countTowardsEnd_X0_beginPhase
theorem dX0_countTowardsEnd_0 : decode cX0_countTowardsEnd 0 = .ok (.aload_n 0, 1) := by decide +kernel
theorem dX0_countTowardsEnd_1 : decode cX0_countTowardsEnd 1 = .ok (.getfield 33, 3) := by decide +kernel
theorem dX0_countTowardsEnd_4 : decode cX0_countTowardsEnd 4 = .ok (.iconst 1, 1) := by decide +kernel
theorem dX0_countTowardsEnd_5 : decode cX0_countTowardsEnd 5 = .ok (.if_icmp .eq 11, 3) := by decide +kernel
theorem dX0_countTowardsEnd_8 : decode cX0_countTowardsEnd 8 = .ok (.aload_n 0, 1) := by decide +kernel
theorem dX0_countTowardsEnd_9 : decode cX0_countTowardsEnd 9 = .ok (.getfield 33, 3) := by decide +kernel
theorem dX0_countTowardsEnd_12 : decode cX0_countTowardsEnd 12 = .ok (.iconst 4, 1) := by decide +kernel
theorem dX0_countTowardsEnd_13 : decode cX0_countTowardsEnd 13 = .ok (.if_icmp .ne 7, 3) := by decide +kernel
theorem dX0_countTowardsEnd_16 : decode cX0_countTowardsEnd 16 = .ok (.iconst 1, 1) := by decide +kernel
theorem dX0_countTowardsEnd_17 : decode cX0_countTowardsEnd 17 = .ok (.goto 4, 3) := by decide +kernel
theorem dX0_countTowardsEnd_20 : decode cX0_countTowardsEnd 20 = .ok (.iconst 0, 1) := by decide +kernel
theorem dX0_countTowardsEnd_21 : decode cX0_countTowardsEnd 21 = .ok (.istore_n 1, 1) := by decide +kernel
theorem dX0_countTowardsEnd_22 : decode cX0_countTowardsEnd 22 = .ok (.aload_n 0, 1) := by decide +kernel
theorem dX0_countTowardsEnd_23 : decode cX0_countTowardsEnd 23 = .ok (.getfield 33, 3) := by decide +kernel
theorem dX0_countTowardsEnd_26 : decode cX0_countTowardsEnd 26 = .ok (.iconst 5, 1) := by decide +kernel
theorem dX0_countTowardsEnd_27 : decode cX0_countTowardsEnd 27 = .ok (.if_icmp .eq 16, 3) := by decide +kernel
theorem dX0_countTowardsEnd_30 : decode cX0_countTowardsEnd 30 = .ok (.iload_n 1, 1) := by decide +kernel
theorem dX0_countTowardsEnd_31 : decode cX0_countTowardsEnd 31 = .ok (.ifCond .eq 22, 3) := by decide +kernel
theorem dX0_countTowardsEnd_34 : decode cX0_countTowardsEnd 34 = .ok (.aload_n 0, 1) := by decide +kernel
theorem dX0_countTowardsEnd_35 : decode cX0_countTowardsEnd 35 = .ok (.getfield 74, 3) := by decide +kernel
theorem dX0_countTowardsEnd_38 : decode cX0_countTowardsEnd 38 = .ok (.iconst 1, 1) := by decide +kernel
theorem dX0_countTowardsEnd_39 : decode cX0_countTowardsEnd 39 = .ok (.iand, 1) := by decide +kernel
theorem dX0_countTowardsEnd_40 : decode cX0_countTowardsEnd 40 = .ok (.ifCond .eq 13, 3) := by decide +kernel
theorem dX0_countTowardsEnd_43 : decode cX0_countTowardsEnd 43 = .ok (.aload_n 0, 1) := by decide +kernel
theorem dX0_countTowardsEnd_44 : decode cX0_countTowardsEnd 44 = .ok (.dup, 1) := by decide +kernel
theorem dX0_countTowardsEnd_45 : decode cX0_countTowardsEnd 45 = .ok (.getfield 89, 3) := by decide +kernel
theorem dX0_countTowardsEnd_48 : decode cX0_countTowardsEnd 48 = .ok (.iconst 1, 1) := by decide +kernel
theorem dX0_countTowardsEnd_49 : decode cX0_countTowardsEnd 49 = .ok (.iadd, 1) := by decide +kernel
theorem dX0_countTowardsEnd_50 : decode cX0_countTowardsEnd 50 = .ok (.putfield 89, 3) := by decide +kernel
theorem dX0_countTowardsEnd_53 : decode cX0_countTowardsEnd 53 = .ok (.aload_n 0, 1) := by decide +kernel
theorem dX0_countTowardsEnd_54 : decode cX0_countTowardsEnd 54 = .ok (.getfield 33, 3) := by decide +kernel
theorem dX0_countTowardsEnd_57 : decode cX0_countTowardsEnd 57 = .ok (.iconst 3, 1) := by decide +kernel
theorem dX0_countTowardsEnd_58 : decode cX0_countTowardsEnd 58 = .ok (.if_icmp .ne 19, 3) := by decide +kernel
theorem dX0_countTowardsEnd_61 : decode cX0_countTowardsEnd 61 = .ok (.aload_n 0, 1) := by decide +kernel
theorem dX0_countTowardsEnd_62 : decode cX0_countTowardsEnd 62 = .ok (.getfield 77, 3) := by decide +kernel
theorem dX0_countTowardsEnd_65 : decode cX0_countTowardsEnd 65 = .ok (.aload_n 0, 1) := by decide +kernel
theorem dX0_countTowardsEnd_66 : decode cX0_countTowardsEnd 66 = .ok (.invokevirtual 152, 3) := by decide +kernel
theorem dX0_countTowardsEnd_69 : decode cX0_countTowardsEnd 69 = .ok (.if_icmp .lt 8, 3) := by decide +kernel
theorem dX0_countTowardsEnd_72 : decode cX0_countTowardsEnd 72 = .ok (.aload_n 0, 1) := by decide +kernel
theorem dX0_countTowardsEnd_73 : decode cX0_countTowardsEnd 73 = .ok (.iconst 4, 1) := by decide +kernel
theorem dX0_countTowardsEnd_74 : decode cX0_countTowardsEnd 74 = .ok (.invokevirtual 61, 3) := by decide +kernel
theorem dX0_countTowardsEnd_77 : decode cX0_countTowardsEnd 77 = .ok (.return_, 1) := by decide +kernel
theorem dJ9_abs_0f7a4_0 : decode cJ9_abs_0f7a4 0 = .ok (.iload_n 0, 1) := by decide +kernel
theorem dJ9_abs_0f7a4_1 : decode cJ9_abs_0f7a4 1 = .ok (.ifCond .ge 8, 3) := by decide +kernel
theorem dJ9_abs_0f7a4_4 : decode cJ9_abs_0f7a4 4 = .ok (.iload_n 0, 1) := by decide +kernel
theorem dJ9_abs_0f7a4_5 : decode cJ9_abs_0f7a4 5 = .ok (.ineg, 1) := by decide +kernel
theorem dJ9_abs_0f7a4_6 : decode cJ9_abs_0f7a4 6 = .ok (.goto 4, 3) := by decide +kernel
theorem dJ9_abs_0f7a4_9 : decode cJ9_abs_0f7a4 9 = .ok (.iload_n 0, 1) := by decide +kernel
theorem dJ9_abs_0f7a4_10 : decode cJ9_abs_0f7a4 10 = .ok (.ireturn, 1) := by decide +kernel
set_option maxRecDepth 20000 in
theorem ggL_law_X0_init : GoodIn wsL_law wsX0_init := goodIn_r _ [5, 6, 7, 8, 9, 10, 11, 12, 13, 14, 15, 16, 17, 18, 19, 20, 21, 22, 23, 194, 195, 196, 197, 198, 199, 200, 201, 202, 203, 204, 205, 206, 207, 208, 209, 210, 211] (by decide +kernel) (by decide +kernel)
set_option maxRecDepth 20000 in
theorem gL_law_X0_init : GoodIn wsL_law (wsX0_init) := ggL_law_X0_init
set_option maxRecDepth 20000 in
theorem ggL_law_X0_set : GoodIn wsL_law wsX0_set := goodIn_r _ [27, 22, 28, 29, 16, 30, 31, 2, 32, 33, 34, 35, 194, 195, 196, 197, 198, 199, 200, 201, 202, 203, 204, 205, 206, 207, 208, 209, 210, 211] (by decide +kernel) (by decide +kernel)
set_option maxRecDepth 20000 in
theorem gL_law_X0_set : GoodIn wsL_law (wsV RL 13 RX0 yX0_set wsX0_set) := goodIn_app (goodIn_of _ (by decide +kernel)) ggL_law_X0_set
set_option maxRecDepth 20000 in
theorem ggL_law_X0_parameter : GoodIn wsL_law wsX0_parameter := goodIn_r _ [39, 16, 30, 31, 2, 32, 194, 195, 196, 197, 198, 199, 200, 201, 202, 203, 204, 205, 206, 207, 208, 209, 210, 211] (by decide +kernel) (by decide +kernel)
set_option maxRecDepth 20000 in
theorem gL_law_X0_parameter : GoodIn wsL_law (wsV RL 18 RX0 yX0_parameter wsX0_parameter) := goodIn_app (goodIn_of _ (by decide +kernel)) ggL_law_X0_parameter
set_option maxRecDepth 20000 in
theorem ggL_law_X0_sense : GoodIn wsL_law wsX0_sense := goodIn_r _ [43, 18, 44, 45, 2, 46, 194, 195, 196, 197, 198, 199, 200, 201, 202, 203, 204, 205, 206, 207, 208, 209, 210, 211] (by decide +kernel) (by decide +kernel)
set_option maxRecDepth 20000 in
theorem gL_law_X0_sense : GoodIn wsL_law (wsV RL 23 RX0 yX0_sense wsX0_sense) := goodIn_app (goodIn_of _ (by decide +kernel)) ggL_law_X0_sense
set_option maxRecDepth 20000 in
theorem ggL_law_X0_conditioned : GoodIn wsL_law wsX0_conditioned := goodIn_r _ [50, 19, 44, 45, 2, 46, 194, 195, 196, 197, 198, 199, 200, 201, 202, 203, 204, 205, 206, 207, 208, 209, 210, 211] (by decide +kernel) (by decide +kernel)
set_option maxRecDepth 20000 in
theorem gL_law_X0_conditioned : GoodIn wsL_law (wsV RL 27 RX0 yX0_conditioned wsX0_conditioned) := goodIn_app (goodIn_of _ (by decide +kernel)) ggL_law_X0_conditioned
set_option maxRecDepth 20000 in
theorem ggL_law_X0_faulty : GoodIn wsL_law wsX0_faulty := goodIn_r _ [54, 21, 44, 45, 2, 46, 194, 195, 196, 197, 198, 199, 200, 201, 202, 203, 204, 205, 206, 207, 208, 209, 210, 211] (by decide +kernel) (by decide +kernel)
set_option maxRecDepth 20000 in
theorem gL_law_X0_faulty : GoodIn wsL_law (wsV RL 31 RX0 yX0_faulty wsX0_faulty) := goodIn_app (goodIn_of _ (by decide +kernel)) ggL_law_X0_faulty
set_option maxRecDepth 20000 in
theorem ggL_law_X0_next : GoodIn wsL_law wsX0_next := goodIn_r _ [58, 22, 59, 60, 61, 2, 62, 63, 64, 65, 66, 67, 68, 69, 16, 70, 71, 72, 73, 74, 75, 76, 194, 195, 196, 197, 198, 199, 200, 201, 202, 203, 204, 205, 206, 207, 208, 209, 210, 211] (by decide +kernel) (by decide +kernel)
set_option maxRecDepth 20000 in
theorem gL_law_X0_next : GoodIn wsL_law (wsV RL 36 RX0 yX0_next wsX0_next) := goodIn_app (goodIn_of _ (by decide +kernel)) ggL_law_X0_next
set_option maxRecDepth 20000 in
theorem ggL_law_X0_acknowledge : GoodIn wsL_law wsX0_acknowledge := goodIn_r _ [80, 64, 81, 194, 195, 196, 197, 198, 199, 200, 201, 202, 203, 204, 205, 206, 207, 208, 209, 210, 211] (by decide +kernel) (by decide +kernel)
set_option maxRecDepth 20000 in
theorem gL_law_X0_acknowledge : GoodIn wsL_law (wsV RL 41 RX0 yX0_acknowledge wsX0_acknowledge) := goodIn_app (goodIn_of _ (by decide +kernel)) ggL_law_X0_acknowledge
set_option maxRecDepth 20000 in
theorem ggL_law_X0_substitute : GoodIn wsL_law wsX0_substitute := goodIn_r _ [85, 23, 33, 34, 2, 35, 194, 195, 196, 197, 198, 199, 200, 201, 202, 203, 204, 205, 206, 207, 208, 209, 210, 211] (by decide +kernel) (by decide +kernel)
set_option maxRecDepth 20000 in
theorem gL_law_X0_substitute : GoodIn wsL_law (wsV RL 45 RX0 yX0_substitute wsX0_substitute) := goodIn_app (goodIn_of _ (by decide +kernel)) ggL_law_X0_substitute
set_option maxRecDepth 20000 in
theorem ggL_law_X0_tick : GoodIn wsL_law wsX0_tick := goodIn_r _ [89, 33, 34, 2, 35, 90, 91, 92, 93, 64, 22, 81, 23, 94, 76, 95, 96, 97, 98, 18, 99, 100, 21, 19, 101, 102, 103, 104, 16, 105, 106, 107, 63, 108, 109, 110, 111, 112, 113, 114, 115, 116, 117, 118, 119, 120, 121, 122, 123, 124, 125, 126, 127, 128, 129, 130, 131, 74, 75, 132, 133, 134, 135, 136, 137, 138, 139, 140, 141, 142, 143, 144, 145, 146, 147, 148, 149, 150, 151, 152, 153, 154, 155, 156, 157, 65, 70, 71, 72, 73, 194, 195, 196, 197, 198, 199, 200, 201, 202, 203, 204, 205, 206, 207, 208, 209, 210, 211] (by decide +kernel) (by decide +kernel)
set_option maxRecDepth 20000 in
theorem gL_law_X0_tick : GoodIn wsL_law (wsV RL 49 RX0 yX0_tick wsX0_tick) := goodIn_app (goodIn_of _ (by decide +kernel)) ggL_law_X0_tick
set_option maxRecDepth 20000 in
theorem ggL_law_X0_phase : GoodIn wsL_law wsX0_phase := goodIn_r _ [161, 22, 194, 195, 196, 197, 198, 199, 200, 201, 202, 203, 204, 205, 206, 207, 208, 209, 210, 211] (by decide +kernel) (by decide +kernel)
set_option maxRecDepth 20000 in
theorem gL_law_X0_phase : GoodIn wsL_law (wsV RL 53 RX0 yX0_phase wsX0_phase) := goodIn_app (goodIn_of _ (by decide +kernel)) ggL_law_X0_phase
set_option maxRecDepth 20000 in
theorem ggL_law_X0_alarms : GoodIn wsL_law wsX0_alarms := goodIn_r _ [165, 64, 194, 195, 196, 197, 198, 199, 200, 201, 202, 203, 204, 205, 206, 207, 208, 209, 210, 211] (by decide +kernel) (by decide +kernel)
set_option maxRecDepth 20000 in
theorem gL_law_X0_alarms : GoodIn wsL_law (wsV RL 57 RX0 yX0_alarms wsX0_alarms) := goodIn_app (goodIn_of _ (by decide +kernel)) ggL_law_X0_alarms
set_option maxRecDepth 20000 in
theorem ggL_law_X0_conditions : GoodIn wsL_law wsX0_conditions := goodIn_r _ [169, 81, 194, 195, 196, 197, 198, 199, 200, 201, 202, 203, 204, 205, 206, 207, 208, 209, 210, 211] (by decide +kernel) (by decide +kernel)
set_option maxRecDepth 20000 in
theorem gL_law_X0_conditions : GoodIn wsL_law (wsV RL 61 RX0 yX0_conditions wsX0_conditions) := goodIn_app (goodIn_of _ (by decide +kernel)) ggL_law_X0_conditions
set_option maxRecDepth 20000 in
theorem ggL_law_X0_outputs : GoodIn wsL_law wsX0_outputs := goodIn_r _ [173, 94, 194, 195, 196, 197, 198, 199, 200, 201, 202, 203, 204, 205, 206, 207, 208, 209, 210, 211] (by decide +kernel) (by decide +kernel)
set_option maxRecDepth 20000 in
theorem gL_law_X0_outputs : GoodIn wsL_law (wsV RL 65 RX0 yX0_outputs wsX0_outputs) := goodIn_app (goodIn_of _ (by decide +kernel)) ggL_law_X0_outputs
set_option maxRecDepth 20000 in
theorem ggL_law_X0_effective : GoodIn wsL_law wsX0_effective := goodIn_r _ [177, 74, 194, 195, 196, 197, 198, 199, 200, 201, 202, 203, 204, 205, 206, 207, 208, 209, 210, 211] (by decide +kernel) (by decide +kernel)
set_option maxRecDepth 20000 in
theorem gL_law_X0_effective : GoodIn wsL_law (wsV RL 69 RX0 yX0_effective wsX0_effective) := goodIn_app (goodIn_of _ (by decide +kernel)) ggL_law_X0_effective
set_option maxRecDepth 20000 in
theorem ggL_law_X0_accounted : GoodIn wsL_law wsX0_accounted := goodIn_r _ [181, 75, 194, 195, 196, 197, 198, 199, 200, 201, 202, 203, 204, 205, 206, 207, 208, 209, 210, 211] (by decide +kernel) (by decide +kernel)
set_option maxRecDepth 20000 in
theorem gL_law_X0_accounted : GoodIn wsL_law (wsV RL 73 RX0 yX0_accounted wsX0_accounted) := goodIn_app (goodIn_of _ (by decide +kernel)) ggL_law_X0_accounted
set_option maxRecDepth 20000 in
theorem ggL_law_X0_strokes : GoodIn wsL_law wsX0_strokes := goodIn_r _ [185, 76, 194, 195, 196, 197, 198, 199, 200, 201, 202, 203, 204, 205, 206, 207, 208, 209, 210, 211] (by decide +kernel) (by decide +kernel)
set_option maxRecDepth 20000 in
theorem gL_law_X0_strokes : GoodIn wsL_law (wsV RL 77 RX0 yX0_strokes wsX0_strokes) := goodIn_app (goodIn_of _ (by decide +kernel)) ggL_law_X0_strokes
set_option maxRecDepth 20000 in
theorem ggL_law_X0_trips : GoodIn wsL_law wsX0_trips := goodIn_r _ [189, 145, 194, 195, 196, 197, 198, 199, 200, 201, 202, 203, 204, 205, 206, 207, 208, 209, 210, 211] (by decide +kernel) (by decide +kernel)
set_option maxRecDepth 20000 in
theorem gL_law_X0_trips : GoodIn wsL_law (wsV RL 81 RX0 yX0_trips wsX0_trips) := goodIn_app (goodIn_of _ (by decide +kernel)) ggL_law_X0_trips
set_option maxRecDepth 20000 in
theorem ggL_law_X0_counted : GoodIn wsL_law wsX0_counted := goodIn_r _ [193, 65, 194, 195, 196, 197, 198, 199, 200, 201, 202, 203, 204, 205, 206, 207, 208, 209, 210, 211] (by decide +kernel) (by decide +kernel)
set_option maxRecDepth 20000 in
theorem gL_law_X0_counted : GoodIn wsL_law (wsV RL 85 RX0 yX0_counted wsX0_counted) := goodIn_app (goodIn_of _ (by decide +kernel)) ggL_law_X0_counted
theorem dL_law_0 : decode cL_law 0 = .ok (.new 7, 3) := by decide +kernel
theorem dL_law_3 : decode cL_law 3 = .ok (.dup, 1) := by decide +kernel
theorem dL_law_4 : decode cL_law 4 = .ok (.invokespecial 9, 3) := by decide +kernel
theorem dL_law_7 : decode cL_law 7 = .ok (.astore_n 1, 1) := by decide +kernel
theorem dL_law_8 : decode cL_law 8 = .ok (.new 10, 3) := by decide +kernel
theorem dL_law_11 : decode cL_law 11 = .ok (.dup, 1) := by decide +kernel
theorem dL_law_12 : decode cL_law 12 = .ok (.invokespecial 12, 3) := by decide +kernel
theorem dL_law_15 : decode cL_law 15 = .ok (.astore_n 2, 1) := by decide +kernel
theorem dL_law_16 : decode cL_law 16 = .ok (.iconst 0, 1) := by decide +kernel
theorem dL_law_17 : decode cL_law 17 = .ok (.istore_n 3, 1) := by decide +kernel
theorem dL_law_18 : decode cL_law 18 = .ok (.iload_n 3, 1) := by decide +kernel
theorem dL_law_19 : decode cL_law 19 = .ok (.aload_n 0, 1) := by decide +kernel
theorem dL_law_20 : decode cL_law 20 = .ok (.arraylength, 1) := by decide +kernel
theorem dL_law_21 : decode cL_law 21 = .ok (.iconst 3, 1) := by decide +kernel
theorem dL_law_22 : decode cL_law 22 = .ok (.isub, 1) := by decide +kernel
theorem dL_law_23 : decode cL_law 23 = .ok (.if_icmp .gt 444, 3) := by decide +kernel
theorem dL_law_26 : decode cL_law 26 = .ok (.aload_n 0, 1) := by decide +kernel
theorem dL_law_27 : decode cL_law 27 = .ok (.iload_n 3, 1) := by decide +kernel
theorem dL_law_28 : decode cL_law 28 = .ok (.iaload, 1) := by decide +kernel
theorem dL_law_29 : decode cL_law 29 = .ok (.bipush 31, 2) := by decide +kernel
theorem dL_law_31 : decode cL_law 31 = .ok (.iand, 1) := by decide +kernel
theorem dL_law_32 : decode cL_law 32 = .ok (.tableswitch 429 0 18 #[92, 125, 148, 181, 204, 227, 240, 253, 276, 299, 312, 325, 338, 351, 364, 377, 390, 403, 416], 92) := by decide +kernel
theorem dL_law_124 : decode cL_law 124 = .ok (.aload_n 1, 1) := by decide +kernel
theorem dL_law_125 : decode cL_law 125 = .ok (.aload_n 0, 1) := by decide +kernel
theorem dL_law_126 : decode cL_law 126 = .ok (.iload_n 3, 1) := by decide +kernel
theorem dL_law_127 : decode cL_law 127 = .ok (.iconst 1, 1) := by decide +kernel
theorem dL_law_128 : decode cL_law 128 = .ok (.iadd, 1) := by decide +kernel
theorem dL_law_129 : decode cL_law 129 = .ok (.iaload, 1) := by decide +kernel
theorem dL_law_130 : decode cL_law 130 = .ok (.aload_n 0, 1) := by decide +kernel
theorem dL_law_131 : decode cL_law 131 = .ok (.iload_n 3, 1) := by decide +kernel
theorem dL_law_132 : decode cL_law 132 = .ok (.iconst 2, 1) := by decide +kernel
theorem dL_law_133 : decode cL_law 133 = .ok (.iadd, 1) := by decide +kernel
theorem dL_law_134 : decode cL_law 134 = .ok (.iaload, 1) := by decide +kernel
theorem dL_law_135 : decode cL_law 135 = .ok (.invokevirtual 13, 3) := by decide +kernel
theorem dL_law_138 : decode cL_law 138 = .ok (.aload_n 2, 1) := by decide +kernel
theorem dL_law_139 : decode cL_law 139 = .ok (.aload_n 0, 1) := by decide +kernel
theorem dL_law_140 : decode cL_law 140 = .ok (.iload_n 3, 1) := by decide +kernel
theorem dL_law_141 : decode cL_law 141 = .ok (.iconst 1, 1) := by decide +kernel
theorem dL_law_142 : decode cL_law 142 = .ok (.iadd, 1) := by decide +kernel
theorem dL_law_143 : decode cL_law 143 = .ok (.iaload, 1) := by decide +kernel
theorem dL_law_144 : decode cL_law 144 = .ok (.aload_n 0, 1) := by decide +kernel
theorem dL_law_145 : decode cL_law 145 = .ok (.iload_n 3, 1) := by decide +kernel
theorem dL_law_146 : decode cL_law 146 = .ok (.iconst 2, 1) := by decide +kernel
theorem dL_law_147 : decode cL_law 147 = .ok (.iadd, 1) := by decide +kernel
theorem dL_law_148 : decode cL_law 148 = .ok (.iaload, 1) := by decide +kernel
theorem dL_law_149 : decode cL_law 149 = .ok (.invokevirtual 17, 3) := by decide +kernel
theorem dL_law_152 : decode cL_law 152 = .ok (.if_icmp .eq 309, 3) := by decide +kernel
theorem dL_law_155 : decode cL_law 155 = .ok (.iconst 0, 1) := by decide +kernel
theorem dL_law_156 : decode cL_law 156 = .ok (.ireturn, 1) := by decide +kernel
theorem dL_law_157 : decode cL_law 157 = .ok (.aload_n 1, 1) := by decide +kernel
theorem dL_law_158 : decode cL_law 158 = .ok (.aload_n 0, 1) := by decide +kernel
theorem dL_law_159 : decode cL_law 159 = .ok (.iload_n 3, 1) := by decide +kernel
theorem dL_law_160 : decode cL_law 160 = .ok (.iconst 1, 1) := by decide +kernel
theorem dL_law_161 : decode cL_law 161 = .ok (.iadd, 1) := by decide +kernel
theorem dL_law_162 : decode cL_law 162 = .ok (.iaload, 1) := by decide +kernel
theorem dL_law_163 : decode cL_law 163 = .ok (.invokevirtual 18, 3) := by decide +kernel
theorem dL_law_166 : decode cL_law 166 = .ok (.aload_n 2, 1) := by decide +kernel
theorem dL_law_167 : decode cL_law 167 = .ok (.aload_n 0, 1) := by decide +kernel
theorem dL_law_168 : decode cL_law 168 = .ok (.iload_n 3, 1) := by decide +kernel
theorem dL_law_169 : decode cL_law 169 = .ok (.iconst 1, 1) := by decide +kernel
theorem dL_law_170 : decode cL_law 170 = .ok (.iadd, 1) := by decide +kernel
theorem dL_law_171 : decode cL_law 171 = .ok (.iaload, 1) := by decide +kernel
theorem dL_law_172 : decode cL_law 172 = .ok (.invokevirtual 22, 3) := by decide +kernel
theorem dL_law_175 : decode cL_law 175 = .ok (.if_icmp .eq 286, 3) := by decide +kernel
theorem dL_law_178 : decode cL_law 178 = .ok (.iconst 0, 1) := by decide +kernel
theorem dL_law_179 : decode cL_law 179 = .ok (.ireturn, 1) := by decide +kernel
theorem dL_law_180 : decode cL_law 180 = .ok (.aload_n 1, 1) := by decide +kernel
theorem dL_law_181 : decode cL_law 181 = .ok (.aload_n 0, 1) := by decide +kernel
theorem dL_law_182 : decode cL_law 182 = .ok (.iload_n 3, 1) := by decide +kernel
theorem dL_law_183 : decode cL_law 183 = .ok (.iconst 1, 1) := by decide +kernel
theorem dL_law_184 : decode cL_law 184 = .ok (.iadd, 1) := by decide +kernel
theorem dL_law_185 : decode cL_law 185 = .ok (.iaload, 1) := by decide +kernel
theorem dL_law_186 : decode cL_law 186 = .ok (.aload_n 0, 1) := by decide +kernel
theorem dL_law_187 : decode cL_law 187 = .ok (.iload_n 3, 1) := by decide +kernel
theorem dL_law_188 : decode cL_law 188 = .ok (.iconst 2, 1) := by decide +kernel
theorem dL_law_189 : decode cL_law 189 = .ok (.iadd, 1) := by decide +kernel
theorem dL_law_190 : decode cL_law 190 = .ok (.iaload, 1) := by decide +kernel
theorem dL_law_191 : decode cL_law 191 = .ok (.invokevirtual 23, 3) := by decide +kernel
theorem dL_law_194 : decode cL_law 194 = .ok (.aload_n 2, 1) := by decide +kernel
theorem dL_law_195 : decode cL_law 195 = .ok (.aload_n 0, 1) := by decide +kernel
theorem dL_law_196 : decode cL_law 196 = .ok (.iload_n 3, 1) := by decide +kernel
theorem dL_law_197 : decode cL_law 197 = .ok (.iconst 1, 1) := by decide +kernel
theorem dL_law_198 : decode cL_law 198 = .ok (.iadd, 1) := by decide +kernel
theorem dL_law_199 : decode cL_law 199 = .ok (.iaload, 1) := by decide +kernel
theorem dL_law_200 : decode cL_law 200 = .ok (.aload_n 0, 1) := by decide +kernel
theorem dL_law_201 : decode cL_law 201 = .ok (.iload_n 3, 1) := by decide +kernel
theorem dL_law_202 : decode cL_law 202 = .ok (.iconst 2, 1) := by decide +kernel
theorem dL_law_203 : decode cL_law 203 = .ok (.iadd, 1) := by decide +kernel
theorem dL_law_204 : decode cL_law 204 = .ok (.iaload, 1) := by decide +kernel
theorem dL_law_205 : decode cL_law 205 = .ok (.invokevirtual 26, 3) := by decide +kernel
theorem dL_law_208 : decode cL_law 208 = .ok (.if_icmp .eq 253, 3) := by decide +kernel
theorem dL_law_211 : decode cL_law 211 = .ok (.iconst 0, 1) := by decide +kernel
theorem dL_law_212 : decode cL_law 212 = .ok (.ireturn, 1) := by decide +kernel
theorem dL_law_213 : decode cL_law 213 = .ok (.aload_n 1, 1) := by decide +kernel
theorem dL_law_214 : decode cL_law 214 = .ok (.aload_n 0, 1) := by decide +kernel
theorem dL_law_215 : decode cL_law 215 = .ok (.iload_n 3, 1) := by decide +kernel
theorem dL_law_216 : decode cL_law 216 = .ok (.iconst 1, 1) := by decide +kernel
theorem dL_law_217 : decode cL_law 217 = .ok (.iadd, 1) := by decide +kernel
theorem dL_law_218 : decode cL_law 218 = .ok (.iaload, 1) := by decide +kernel
theorem dL_law_219 : decode cL_law 219 = .ok (.invokevirtual 27, 3) := by decide +kernel
theorem dL_law_222 : decode cL_law 222 = .ok (.aload_n 2, 1) := by decide +kernel
theorem dL_law_223 : decode cL_law 223 = .ok (.aload_n 0, 1) := by decide +kernel
theorem dL_law_224 : decode cL_law 224 = .ok (.iload_n 3, 1) := by decide +kernel
theorem dL_law_225 : decode cL_law 225 = .ok (.iconst 1, 1) := by decide +kernel
theorem dL_law_226 : decode cL_law 226 = .ok (.iadd, 1) := by decide +kernel
theorem dL_law_227 : decode cL_law 227 = .ok (.iaload, 1) := by decide +kernel
theorem dL_law_228 : decode cL_law 228 = .ok (.invokevirtual 30, 3) := by decide +kernel
theorem dL_law_231 : decode cL_law 231 = .ok (.if_icmp .eq 230, 3) := by decide +kernel
theorem dL_law_234 : decode cL_law 234 = .ok (.iconst 0, 1) := by decide +kernel
theorem dL_law_235 : decode cL_law 235 = .ok (.ireturn, 1) := by decide +kernel
theorem dL_law_236 : decode cL_law 236 = .ok (.aload_n 1, 1) := by decide +kernel
theorem dL_law_237 : decode cL_law 237 = .ok (.aload_n 0, 1) := by decide +kernel
theorem dL_law_238 : decode cL_law 238 = .ok (.iload_n 3, 1) := by decide +kernel
theorem dL_law_239 : decode cL_law 239 = .ok (.iconst 1, 1) := by decide +kernel
theorem dL_law_240 : decode cL_law 240 = .ok (.iadd, 1) := by decide +kernel
theorem dL_law_241 : decode cL_law 241 = .ok (.iaload, 1) := by decide +kernel
theorem dL_law_242 : decode cL_law 242 = .ok (.invokevirtual 31, 3) := by decide +kernel
theorem dL_law_245 : decode cL_law 245 = .ok (.aload_n 2, 1) := by decide +kernel
theorem dL_law_246 : decode cL_law 246 = .ok (.aload_n 0, 1) := by decide +kernel
theorem dL_law_247 : decode cL_law 247 = .ok (.iload_n 3, 1) := by decide +kernel
theorem dL_law_248 : decode cL_law 248 = .ok (.iconst 1, 1) := by decide +kernel
theorem dL_law_249 : decode cL_law 249 = .ok (.iadd, 1) := by decide +kernel
theorem dL_law_250 : decode cL_law 250 = .ok (.iaload, 1) := by decide +kernel
theorem dL_law_251 : decode cL_law 251 = .ok (.invokevirtual 35, 3) := by decide +kernel
theorem dL_law_254 : decode cL_law 254 = .ok (.if_icmp .eq 207, 3) := by decide +kernel
theorem dL_law_257 : decode cL_law 257 = .ok (.iconst 0, 1) := by decide +kernel
theorem dL_law_258 : decode cL_law 258 = .ok (.ireturn, 1) := by decide +kernel
theorem dL_law_259 : decode cL_law 259 = .ok (.aload_n 1, 1) := by decide +kernel
theorem dL_law_260 : decode cL_law 260 = .ok (.invokevirtual 36, 3) := by decide +kernel
theorem dL_law_263 : decode cL_law 263 = .ok (.aload_n 2, 1) := by decide +kernel
theorem dL_law_264 : decode cL_law 264 = .ok (.invokevirtual 40, 3) := by decide +kernel
theorem dL_law_267 : decode cL_law 267 = .ok (.if_icmp .eq 194, 3) := by decide +kernel
theorem dL_law_270 : decode cL_law 270 = .ok (.iconst 0, 1) := by decide +kernel
theorem dL_law_271 : decode cL_law 271 = .ok (.ireturn, 1) := by decide +kernel
theorem dL_law_272 : decode cL_law 272 = .ok (.aload_n 1, 1) := by decide +kernel
theorem dL_law_273 : decode cL_law 273 = .ok (.invokevirtual 41, 3) := by decide +kernel
theorem dL_law_276 : decode cL_law 276 = .ok (.aload_n 2, 1) := by decide +kernel
theorem dL_law_277 : decode cL_law 277 = .ok (.invokevirtual 44, 3) := by decide +kernel
theorem dL_law_280 : decode cL_law 280 = .ok (.if_icmp .eq 181, 3) := by decide +kernel
theorem dL_law_283 : decode cL_law 283 = .ok (.iconst 0, 1) := by decide +kernel
theorem dL_law_284 : decode cL_law 284 = .ok (.ireturn, 1) := by decide +kernel
theorem dL_law_285 : decode cL_law 285 = .ok (.aload_n 1, 1) := by decide +kernel
theorem dL_law_286 : decode cL_law 286 = .ok (.aload_n 0, 1) := by decide +kernel
theorem dL_law_287 : decode cL_law 287 = .ok (.iload_n 3, 1) := by decide +kernel
theorem dL_law_288 : decode cL_law 288 = .ok (.iconst 1, 1) := by decide +kernel
theorem dL_law_289 : decode cL_law 289 = .ok (.iadd, 1) := by decide +kernel
theorem dL_law_290 : decode cL_law 290 = .ok (.iaload, 1) := by decide +kernel
theorem dL_law_291 : decode cL_law 291 = .ok (.invokevirtual 45, 3) := by decide +kernel
theorem dL_law_294 : decode cL_law 294 = .ok (.aload_n 2, 1) := by decide +kernel
theorem dL_law_295 : decode cL_law 295 = .ok (.aload_n 0, 1) := by decide +kernel
theorem dL_law_296 : decode cL_law 296 = .ok (.iload_n 3, 1) := by decide +kernel
theorem dL_law_297 : decode cL_law 297 = .ok (.iconst 1, 1) := by decide +kernel
theorem dL_law_298 : decode cL_law 298 = .ok (.iadd, 1) := by decide +kernel
theorem dL_law_299 : decode cL_law 299 = .ok (.iaload, 1) := by decide +kernel
theorem dL_law_300 : decode cL_law 300 = .ok (.invokevirtual 48, 3) := by decide +kernel
theorem dL_law_303 : decode cL_law 303 = .ok (.if_icmp .eq 158, 3) := by decide +kernel
theorem dL_law_306 : decode cL_law 306 = .ok (.iconst 0, 1) := by decide +kernel
theorem dL_law_307 : decode cL_law 307 = .ok (.ireturn, 1) := by decide +kernel
theorem dL_law_308 : decode cL_law 308 = .ok (.aload_n 1, 1) := by decide +kernel
theorem dL_law_309 : decode cL_law 309 = .ok (.aload_n 0, 1) := by decide +kernel
theorem dL_law_310 : decode cL_law 310 = .ok (.iload_n 3, 1) := by decide +kernel
theorem dL_law_311 : decode cL_law 311 = .ok (.iconst 1, 1) := by decide +kernel
theorem dL_law_312 : decode cL_law 312 = .ok (.iadd, 1) := by decide +kernel
theorem dL_law_313 : decode cL_law 313 = .ok (.iaload, 1) := by decide +kernel
theorem dL_law_314 : decode cL_law 314 = .ok (.invokevirtual 49, 3) := by decide +kernel
theorem dL_law_317 : decode cL_law 317 = .ok (.aload_n 2, 1) := by decide +kernel
theorem dL_law_318 : decode cL_law 318 = .ok (.aload_n 0, 1) := by decide +kernel
theorem dL_law_319 : decode cL_law 319 = .ok (.iload_n 3, 1) := by decide +kernel
theorem dL_law_320 : decode cL_law 320 = .ok (.iconst 1, 1) := by decide +kernel
theorem dL_law_321 : decode cL_law 321 = .ok (.iadd, 1) := by decide +kernel
theorem dL_law_322 : decode cL_law 322 = .ok (.iaload, 1) := by decide +kernel
theorem dL_law_323 : decode cL_law 323 = .ok (.invokevirtual 52, 3) := by decide +kernel
theorem dL_law_326 : decode cL_law 326 = .ok (.if_icmp .eq 135, 3) := by decide +kernel
theorem dL_law_329 : decode cL_law 329 = .ok (.iconst 0, 1) := by decide +kernel
theorem dL_law_330 : decode cL_law 330 = .ok (.ireturn, 1) := by decide +kernel
theorem dL_law_331 : decode cL_law 331 = .ok (.aload_n 1, 1) := by decide +kernel
theorem dL_law_332 : decode cL_law 332 = .ok (.invokevirtual 53, 3) := by decide +kernel
theorem dL_law_335 : decode cL_law 335 = .ok (.aload_n 2, 1) := by decide +kernel
theorem dL_law_336 : decode cL_law 336 = .ok (.invokevirtual 56, 3) := by decide +kernel
theorem dL_law_339 : decode cL_law 339 = .ok (.if_icmp .eq 122, 3) := by decide +kernel
theorem dL_law_342 : decode cL_law 342 = .ok (.iconst 0, 1) := by decide +kernel
theorem dL_law_343 : decode cL_law 343 = .ok (.ireturn, 1) := by decide +kernel
theorem dL_law_344 : decode cL_law 344 = .ok (.aload_n 1, 1) := by decide +kernel
theorem dL_law_345 : decode cL_law 345 = .ok (.invokevirtual 57, 3) := by decide +kernel
theorem dL_law_348 : decode cL_law 348 = .ok (.aload_n 2, 1) := by decide +kernel
theorem dL_law_349 : decode cL_law 349 = .ok (.invokevirtual 60, 3) := by decide +kernel
theorem dL_law_352 : decode cL_law 352 = .ok (.if_icmp .eq 109, 3) := by decide +kernel
theorem dL_law_355 : decode cL_law 355 = .ok (.iconst 0, 1) := by decide +kernel
theorem dL_law_356 : decode cL_law 356 = .ok (.ireturn, 1) := by decide +kernel
theorem dL_law_357 : decode cL_law 357 = .ok (.aload_n 1, 1) := by decide +kernel
theorem dL_law_358 : decode cL_law 358 = .ok (.invokevirtual 61, 3) := by decide +kernel
theorem dL_law_361 : decode cL_law 361 = .ok (.aload_n 2, 1) := by decide +kernel
theorem dL_law_362 : decode cL_law 362 = .ok (.invokevirtual 64, 3) := by decide +kernel
theorem dL_law_365 : decode cL_law 365 = .ok (.if_icmp .eq 96, 3) := by decide +kernel
theorem dL_law_368 : decode cL_law 368 = .ok (.iconst 0, 1) := by decide +kernel
theorem dL_law_369 : decode cL_law 369 = .ok (.ireturn, 1) := by decide +kernel
theorem dL_law_370 : decode cL_law 370 = .ok (.aload_n 1, 1) := by decide +kernel
theorem dL_law_371 : decode cL_law 371 = .ok (.invokevirtual 65, 3) := by decide +kernel
theorem dL_law_374 : decode cL_law 374 = .ok (.aload_n 2, 1) := by decide +kernel
theorem dL_law_375 : decode cL_law 375 = .ok (.invokevirtual 68, 3) := by decide +kernel
theorem dL_law_378 : decode cL_law 378 = .ok (.if_icmp .eq 83, 3) := by decide +kernel
theorem dL_law_381 : decode cL_law 381 = .ok (.iconst 0, 1) := by decide +kernel
theorem dL_law_382 : decode cL_law 382 = .ok (.ireturn, 1) := by decide +kernel
theorem dL_law_383 : decode cL_law 383 = .ok (.aload_n 1, 1) := by decide +kernel
theorem dL_law_384 : decode cL_law 384 = .ok (.invokevirtual 69, 3) := by decide +kernel
theorem dL_law_387 : decode cL_law 387 = .ok (.aload_n 2, 1) := by decide +kernel
theorem dL_law_388 : decode cL_law 388 = .ok (.invokevirtual 72, 3) := by decide +kernel
theorem dL_law_391 : decode cL_law 391 = .ok (.if_icmp .eq 70, 3) := by decide +kernel
theorem dL_law_394 : decode cL_law 394 = .ok (.iconst 0, 1) := by decide +kernel
theorem dL_law_395 : decode cL_law 395 = .ok (.ireturn, 1) := by decide +kernel
theorem dL_law_396 : decode cL_law 396 = .ok (.aload_n 1, 1) := by decide +kernel
theorem dL_law_397 : decode cL_law 397 = .ok (.invokevirtual 73, 3) := by decide +kernel
theorem dL_law_400 : decode cL_law 400 = .ok (.aload_n 2, 1) := by decide +kernel
theorem dL_law_401 : decode cL_law 401 = .ok (.invokevirtual 76, 3) := by decide +kernel
theorem dL_law_404 : decode cL_law 404 = .ok (.if_icmp .eq 57, 3) := by decide +kernel
theorem dL_law_407 : decode cL_law 407 = .ok (.iconst 0, 1) := by decide +kernel
theorem dL_law_408 : decode cL_law 408 = .ok (.ireturn, 1) := by decide +kernel
theorem dL_law_409 : decode cL_law 409 = .ok (.aload_n 1, 1) := by decide +kernel
theorem dL_law_410 : decode cL_law 410 = .ok (.invokevirtual 77, 3) := by decide +kernel
theorem dL_law_413 : decode cL_law 413 = .ok (.aload_n 2, 1) := by decide +kernel
theorem dL_law_414 : decode cL_law 414 = .ok (.invokevirtual 80, 3) := by decide +kernel
theorem dL_law_417 : decode cL_law 417 = .ok (.if_icmp .eq 44, 3) := by decide +kernel
theorem dL_law_420 : decode cL_law 420 = .ok (.iconst 0, 1) := by decide +kernel
theorem dL_law_421 : decode cL_law 421 = .ok (.ireturn, 1) := by decide +kernel
theorem dL_law_422 : decode cL_law 422 = .ok (.aload_n 1, 1) := by decide +kernel
theorem dL_law_423 : decode cL_law 423 = .ok (.invokevirtual 81, 3) := by decide +kernel
theorem dL_law_426 : decode cL_law 426 = .ok (.aload_n 2, 1) := by decide +kernel
theorem dL_law_427 : decode cL_law 427 = .ok (.invokevirtual 84, 3) := by decide +kernel
theorem dL_law_430 : decode cL_law 430 = .ok (.if_icmp .eq 31, 3) := by decide +kernel
theorem dL_law_433 : decode cL_law 433 = .ok (.iconst 0, 1) := by decide +kernel
theorem dL_law_434 : decode cL_law 434 = .ok (.ireturn, 1) := by decide +kernel
theorem dL_law_435 : decode cL_law 435 = .ok (.aload_n 1, 1) := by decide +kernel
theorem dL_law_436 : decode cL_law 436 = .ok (.invokevirtual 85, 3) := by decide +kernel
theorem dL_law_439 : decode cL_law 439 = .ok (.aload_n 2, 1) := by decide +kernel
theorem dL_law_440 : decode cL_law 440 = .ok (.invokevirtual 88, 3) := by decide +kernel
theorem dL_law_443 : decode cL_law 443 = .ok (.if_icmp .eq 18, 3) := by decide +kernel
theorem dL_law_446 : decode cL_law 446 = .ok (.iconst 0, 1) := by decide +kernel
theorem dL_law_447 : decode cL_law 447 = .ok (.ireturn, 1) := by decide +kernel
theorem dL_law_448 : decode cL_law 448 = .ok (.aload_n 1, 1) := by decide +kernel
theorem dL_law_449 : decode cL_law 449 = .ok (.invokevirtual 89, 3) := by decide +kernel
theorem dL_law_452 : decode cL_law 452 = .ok (.aload_n 2, 1) := by decide +kernel
theorem dL_law_453 : decode cL_law 453 = .ok (.invokevirtual 92, 3) := by decide +kernel
theorem dL_law_456 : decode cL_law 456 = .ok (.if_icmp .eq 5, 3) := by decide +kernel
theorem dL_law_459 : decode cL_law 459 = .ok (.iconst 0, 1) := by decide +kernel
theorem dL_law_460 : decode cL_law 460 = .ok (.ireturn, 1) := by decide +kernel
theorem dL_law_461 : decode cL_law 461 = .ok (.iinc 3 3, 3) := by decide +kernel
theorem dL_law_464 : decode cL_law 464 = .ok (.goto (-446), 3) := by decide +kernel
theorem dL_law_467 : decode cL_law 467 = .ok (.iconst 1, 1) := by decide +kernel
theorem dL_law_468 : decode cL_law 468 = .ok (.ireturn, 1) := by decide +kernel
abbrev vwCl : List vw_C := [(RX0, TX0, 18)]
end
section
abbrev RXM : String := RX1
def TXM : u_T := fun k => match k with
  | 0 => ("BloodCircuitChannelsModel", "value", "[I", true)
  | 1 => ("BloodCircuitChannelsModel", "raw", "[I", true)
  | 2 => ("BloodCircuitChannelsModel", "seen", "[I", true)
  | 3 => ("BloodCircuitChannelsModel", "phase", "I", false)
  | 4 => ("BloodCircuitChannelsModel", "stands", "I", false)
  | 5 => ("BloodCircuitChannelsModel", "holds", "I", false)
  | 6 => ("BloodCircuitChannelsModel", "out", "I", false)
  | 7 => ("BloodCircuitChannelsModel", "other", "I", false)
  | 8 => ("BloodCircuitChannelsModel", "now", "I", false)
  | 9 => ("BloodCircuitChannelsModel", "plausible", "[I", true)
  | 10 => ("BloodCircuitChannelsModel", "arterialIn", "I", false)
  | 11 => ("BloodCircuitChannelsModel", "venousIn", "I", false)
  | 12 => ("BloodCircuitChannelsModel", "fluidFine", "I", false)
  | 13 => ("BloodCircuitChannelsModel", "fluidOff", "I", false)
  | 14 => ("BloodCircuitChannelsModel", "effectiveTicks", "I", false)
  | 15 => ("BloodCircuitChannelsModel", "commanded", "I", false)
  | 16 => ("BloodCircuitChannelsModel", "made", "I", false)
  | 17 => ("BloodCircuitChannelsModel", "tripped", "I", false)
  | _ => ("BloodCircuitChannelsModel", "towards", "I", false)
def tyXM : Nat → FieldType := fun k => match k with
  | 0 => .array .int
  | 1 => .array .int
  | 2 => .array .int
  | 3 => .int
  | 4 => .int
  | 5 => .int
  | 6 => .int
  | 7 => .int
  | 8 => .int
  | 9 => .array .int
  | 10 => .int
  | 11 => .int
  | 12 => .int
  | 13 => .int
  | 14 => .int
  | 15 => .int
  | 16 => .int
  | 17 => .int
  | _ => .int
abbrev wsXM0 : List Cond := u_ws RXM TXM 19
theorem nmXM : ∀ a, a < 19 → ∀ b, b < 19 → a ≠ b → (TXM a).2.1 ≠ (TXM b).2.1 := by decide +kernel
theorem tyXM_ok : ∀ k, k < 19 → parseFieldDescriptor (TXM k).2.2.1 = some (tyXM k) := by decide +kernel
abbrev vwC2 : List vw_C := [(RX0, TX0, 18), (RXM, TXM, 19)]
abbrev cXM_init : ByteArray := prog_3_method_1_code
def yXM_init : MethodName := ⟨RXM, "<init>", "()V"⟩
abbrev cXM_set : ByteArray := prog_3_method_6_code
def yXM_set : MethodName := ⟨RXM, "set", "(II)Z"⟩
abbrev cXM_least : ByteArray := prog_3_method_2_code
def yXM_least : MethodName := ⟨RXM, "least", "(I)I"⟩
abbrev cXM_most : ByteArray := prog_3_method_3_code
def yXM_most : MethodName := ⟨RXM, "most", "(I)I"⟩
abbrev cXM_parameter : ByteArray := prog_3_method_7_code
def yXM_parameter : MethodName := ⟨RXM, "parameter", "(I)I"⟩
abbrev cXM_sense : ByteArray := prog_3_method_8_code
def yXM_sense : MethodName := ⟨RXM, "sense", "(II)Z"⟩
abbrev cXM_conditioned : ByteArray := prog_3_method_9_code
def yXM_conditioned : MethodName := ⟨RXM, "conditioned", "(I)I"⟩
abbrev cXM_faulty : ByteArray := prog_3_method_10_code
def yXM_faulty : MethodName := ⟨RXM, "faulty", "(I)Z"⟩
abbrev cXM_next : ByteArray := prog_3_method_12_code
def yXM_next : MethodName := ⟨RXM, "next", "()I"⟩
abbrev cXM_consistent : ByteArray := prog_3_method_4_code
def yXM_consistent : MethodName := ⟨RXM, "consistent", "()Z"⟩
abbrev cXM_enter : ByteArray := prog_3_method_11_code
def yXM_enter : MethodName := ⟨RXM, "enter", "(I)V"⟩
abbrev cXM_acknowledge : ByteArray := prog_3_method_13_code
def yXM_acknowledge : MethodName := ⟨RXM, "acknowledge", "()I"⟩
abbrev cXM_substitute : ByteArray := prog_3_method_14_code
def yXM_substitute : MethodName := ⟨RXM, "substitute", "(I)Z"⟩
abbrev cXM_tick : ByteArray := prog_3_method_23_code
def yXM_tick : MethodName := ⟨RXM, "tick", "(I)I"⟩
abbrev cXM_one : ByteArray := prog_3_method_22_code
def yXM_one : MethodName := ⟨RXM, "one", "()Z"⟩
abbrev cXM_condition : ByteArray := prog_3_method_18_code
def yXM_condition : MethodName := ⟨RXM, "condition", "()V"⟩
abbrev cXM_isPlausible : ByteArray := prog_3_method_5_code
def yXM_isPlausible : MethodName := ⟨RXM, "isPlausible", "(I)Z"⟩
abbrev cXM_onPatient : ByteArray := prog_3_method_15_code
def yXM_onPatient : MethodName := ⟨RXM, "onPatient", "()Z"⟩
abbrev cXM_outside : ByteArray := prog_3_method_17_code
def yXM_outside : MethodName := ⟨RXM, "outside", "(III)Z"⟩
abbrev cXM_off : ByteArray := prog_3_method_16_code
def yXM_off : MethodName := ⟨RXM, "off", "()Z"⟩
abbrev cXM_conditionsNow : ByteArray := prog_3_method_19_code
def yXM_conditionsNow : MethodName := ⟨RXM, "conditionsNow", "()I"⟩
abbrev cXM_commands : ByteArray := prog_3_method_20_code
def yXM_commands : MethodName := ⟨RXM, "commands", "()I"⟩
abbrev cXM_guarded : ByteArray := prog_3_method_21_code
def yXM_guarded : MethodName := ⟨RXM, "guarded", "(I)I"⟩
abbrev cXM_phase : ByteArray := prog_3_method_24_code
def yXM_phase : MethodName := ⟨RXM, "phase", "()I"⟩
abbrev cXM_alarms : ByteArray := prog_3_method_25_code
def yXM_alarms : MethodName := ⟨RXM, "alarms", "()I"⟩
abbrev cXM_conditions : ByteArray := prog_3_method_26_code
def yXM_conditions : MethodName := ⟨RXM, "conditions", "()I"⟩
abbrev cXM_outputs : ByteArray := prog_3_method_27_code
def yXM_outputs : MethodName := ⟨RXM, "outputs", "()I"⟩
abbrev cXM_effective : ByteArray := prog_3_method_28_code
def yXM_effective : MethodName := ⟨RXM, "effective", "()I"⟩
abbrev cXM_accounted : ByteArray := prog_3_method_29_code
def yXM_accounted : MethodName := ⟨RXM, "accounted", "()I"⟩
abbrev cXM_strokes : ByteArray := prog_3_method_30_code
def yXM_strokes : MethodName := ⟨RXM, "strokes", "()I"⟩
abbrev cXM_trips : ByteArray := prog_3_method_31_code
def yXM_trips : MethodName := ⟨RXM, "trips", "()I"⟩
abbrev cXM_counted : ByteArray := prog_3_method_32_code
def yXM_counted : MethodName := ⟨RXM, "counted", "()I"⟩
abbrev cXM_steady : ByteArray := prog_3_method_33_code
def yXM_steady : MethodName := ⟨RXM, "steady", "()I"⟩
def wsM : List Cond := [.initialized RXM, .arrayClass .int, .instanceMethod objectInit, .instanceMethod yXM_init, .methodLink RXM 1 objectInit, .fieldLink RXM 7 "BloodCircuitChannelsModel" "value" "[I", .fieldLink RXM 13 "BloodCircuitChannelsModel" "raw" "[I", .fieldLink RXM 16 "BloodCircuitChannelsModel" "seen" "[I", .fieldLink RXM 26 "BloodCircuitChannelsModel" "phase" "I", .fieldLink RXM 58 "BloodCircuitChannelsModel" "stands" "I", .fieldLink RXM 65 "BloodCircuitChannelsModel" "holds" "I", .fieldLink RXM 116 "BloodCircuitChannelsModel" "out" "I", .fieldLink RXM 19 "BloodCircuitChannelsModel" "other" "I", .fieldLink RXM 36 "BloodCircuitChannelsModel" "now" "I", .fieldLink RXM 23 "BloodCircuitChannelsModel" "plausible" "[I", .fieldLink RXM 79 "BloodCircuitChannelsModel" "arterialIn" "I", .fieldLink RXM 82 "BloodCircuitChannelsModel" "venousIn" "I", .fieldLink RXM 88 "BloodCircuitChannelsModel" "fluidFine" "I", .fieldLink RXM 55 "BloodCircuitChannelsModel" "fluidOff" "I", .fieldLink RXM 42 "BloodCircuitChannelsModel" "effectiveTicks" "I", .fieldLink RXM 45 "BloodCircuitChannelsModel" "commanded" "I", .fieldLink RXM 48 "BloodCircuitChannelsModel" "made" "I", .fieldLink RXM 100 "BloodCircuitChannelsModel" "tripped" "I", .fieldLink RXM 39 "BloodCircuitChannelsModel" "towards" "I", .instanceMethod yXM_set, .selects RXM yXM_set yXM_set, .methodLink RXM 29 yXM_least, .static yXM_least, .methodLink RXM 33 yXM_most, .static yXM_most, .instanceMethod yXM_parameter, .selects RXM yXM_parameter yXM_parameter, .instanceMethod yXM_sense, .selects RXM yXM_sense yXM_sense, .instanceMethod yXM_conditioned, .selects RXM yXM_conditioned yXM_conditioned, .instanceMethod yXM_faulty, .selects RXM yXM_faulty yXM_faulty, .instanceMethod yXM_next, .selects RXM yXM_next yXM_next, .methodLink RXM 51 yXM_consistent, .instanceMethod yXM_consistent, .methodLink RXM 61 yXM_enter, .instanceMethod yXM_enter, .instanceMethod yXM_acknowledge, .selects RXM yXM_acknowledge yXM_acknowledge, .instanceMethod yXM_substitute, .selects RXM yXM_substitute yXM_substitute, .instanceMethod yXM_tick, .selects RXM yXM_tick yXM_tick, .methodLink RXM 119 yXM_one, .instanceMethod yXM_one, .methodLink RXM 103 yXM_condition, .instanceMethod yXM_condition, .methodLink RXM 68 yXM_isPlausible, .instanceMethod yXM_isPlausible, .methodLink RXM 72 yXM_onPatient, .instanceMethod yXM_onPatient, .methodLink RXM 75 yXM_outside, .instanceMethod yXM_outside, .methodLink RXM 85 yXM_off, .instanceMethod yXM_off, .methodLink RXM 106 yXM_conditionsNow, .instanceMethod yXM_conditionsNow, .methodLink RXM 91 yXM_faulty, .methodLink RXM 110 yXM_commands, .instanceMethod yXM_commands, .constantLong RXM 94 1000, .constantLong RXM 96 600, .constantLong RXM 98 500, .methodLink RXM 113 yXM_guarded, .instanceMethod yXM_guarded, .instanceMethod yXM_phase, .selects RXM yXM_phase yXM_phase, .instanceMethod yXM_alarms, .selects RXM yXM_alarms yXM_alarms, .instanceMethod yXM_conditions, .selects RXM yXM_conditions yXM_conditions, .instanceMethod yXM_outputs, .selects RXM yXM_outputs yXM_outputs, .instanceMethod yXM_effective, .selects RXM yXM_effective yXM_effective, .instanceMethod yXM_accounted, .selects RXM yXM_accounted yXM_accounted, .instanceMethod yXM_strokes, .selects RXM yXM_strokes yXM_strokes, .instanceMethod yXM_trips, .selects RXM yXM_trips yXM_trips, .instanceMethod yXM_counted, .selects RXM yXM_counted yXM_counted, .instanceMethod yXM_steady, .selects RXM yXM_steady yXM_steady, .selects RXM yXM_consistent yXM_consistent, .selects RXM yXM_enter yXM_enter, .selects RXM yXM_one yXM_one, .selects RXM yXM_condition yXM_condition, .selects RXM yXM_isPlausible yXM_isPlausible, .selects RXM yXM_onPatient yXM_onPatient, .selects RXM yXM_outside yXM_outside, .selects RXM yXM_off yXM_off, .selects RXM yXM_conditionsNow yXM_conditionsNow, .selects RXM yXM_commands yXM_commands, .selects RXM yXM_guarded yXM_guarded, .code objectInit ⟨#[0xb1]⟩ 1 none, .code yXM_init cXM_init 2 none, .code yXM_set cXM_set 3 (some .boolean), .code yXM_least cXM_least 1 (some .int), .code yXM_most cXM_most 2 (some .int), .code yXM_parameter cXM_parameter 2 (some .int), .code yXM_sense cXM_sense 3 (some .boolean), .code yXM_conditioned cXM_conditioned 2 (some .int), .code yXM_faulty cXM_faulty 2 (some .boolean), .code yXM_next cXM_next 2 (some .int), .code yXM_consistent cXM_consistent 1 (some .boolean), .code yXM_enter cXM_enter 2 none, .code yXM_acknowledge cXM_acknowledge 1 (some .int), .code yXM_substitute cXM_substitute 2 (some .boolean), .code yXM_tick cXM_tick 4 (some .int), .code yXM_one cXM_one 4 (some .boolean), .code yXM_condition cXM_condition 2 none, .code yXM_isPlausible cXM_isPlausible 4 (some .boolean), .code yXM_onPatient cXM_onPatient 1 (some .boolean), .code yXM_outside cXM_outside 4 (some .boolean), .code yXM_off cXM_off 3 (some .boolean), .code yXM_conditionsNow cXM_conditionsNow 4 (some .int), .code yXM_commands cXM_commands 5 (some .int), .code yXM_guarded cXM_guarded 4 (some .int), .code yXM_phase cXM_phase 1 (some .int), .code yXM_alarms cXM_alarms 1 (some .int), .code yXM_conditions cXM_conditions 1 (some .int), .code yXM_outputs cXM_outputs 1 (some .int), .code yXM_effective cXM_effective 1 (some .int), .code yXM_accounted cXM_accounted 1 (some .int), .code yXM_strokes cXM_strokes 1 (some .int), .code yXM_trips cXM_trips 1 (some .int), .code yXM_counted cXM_counted 1 (some .int), .code yXM_steady cXM_steady 1 (some .int)]
theorem wM_0 : (.initialized RXM : Cond) ∈ wsM := List.mem_of_getElem? (i := 0) rfl
theorem wM_1 : (.arrayClass .int : Cond) ∈ wsM := List.mem_of_getElem? (i := 1) rfl
theorem wM_2 : (.instanceMethod objectInit : Cond) ∈ wsM := List.mem_of_getElem? (i := 2) rfl
theorem wM_3 : (.instanceMethod yXM_init : Cond) ∈ wsM := List.mem_of_getElem? (i := 3) rfl
theorem wM_4 : (.methodLink RXM 1 objectInit : Cond) ∈ wsM := List.mem_of_getElem? (i := 4) rfl
theorem wM_5 : (.fieldLink RXM 7 "BloodCircuitChannelsModel" "value" "[I" : Cond) ∈ wsM := List.mem_of_getElem? (i := 5) rfl
theorem wM_6 : (.fieldLink RXM 13 "BloodCircuitChannelsModel" "raw" "[I" : Cond) ∈ wsM := List.mem_of_getElem? (i := 6) rfl
theorem wM_7 : (.fieldLink RXM 16 "BloodCircuitChannelsModel" "seen" "[I" : Cond) ∈ wsM := List.mem_of_getElem? (i := 7) rfl
theorem wM_8 : (.fieldLink RXM 26 "BloodCircuitChannelsModel" "phase" "I" : Cond) ∈ wsM := List.mem_of_getElem? (i := 8) rfl
theorem wM_9 : (.fieldLink RXM 58 "BloodCircuitChannelsModel" "stands" "I" : Cond) ∈ wsM := List.mem_of_getElem? (i := 9) rfl
theorem wM_10 : (.fieldLink RXM 65 "BloodCircuitChannelsModel" "holds" "I" : Cond) ∈ wsM := List.mem_of_getElem? (i := 10) rfl
theorem wM_11 : (.fieldLink RXM 116 "BloodCircuitChannelsModel" "out" "I" : Cond) ∈ wsM := List.mem_of_getElem? (i := 11) rfl
theorem wM_12 : (.fieldLink RXM 19 "BloodCircuitChannelsModel" "other" "I" : Cond) ∈ wsM := List.mem_of_getElem? (i := 12) rfl
theorem wM_13 : (.fieldLink RXM 36 "BloodCircuitChannelsModel" "now" "I" : Cond) ∈ wsM := List.mem_of_getElem? (i := 13) rfl
theorem wM_14 : (.fieldLink RXM 23 "BloodCircuitChannelsModel" "plausible" "[I" : Cond) ∈ wsM := List.mem_of_getElem? (i := 14) rfl
theorem wM_15 : (.fieldLink RXM 79 "BloodCircuitChannelsModel" "arterialIn" "I" : Cond) ∈ wsM := List.mem_of_getElem? (i := 15) rfl
theorem wM_16 : (.fieldLink RXM 82 "BloodCircuitChannelsModel" "venousIn" "I" : Cond) ∈ wsM := List.mem_of_getElem? (i := 16) rfl
theorem wM_17 : (.fieldLink RXM 88 "BloodCircuitChannelsModel" "fluidFine" "I" : Cond) ∈ wsM := List.mem_of_getElem? (i := 17) rfl
theorem wM_18 : (.fieldLink RXM 55 "BloodCircuitChannelsModel" "fluidOff" "I" : Cond) ∈ wsM := List.mem_of_getElem? (i := 18) rfl
theorem wM_19 : (.fieldLink RXM 42 "BloodCircuitChannelsModel" "effectiveTicks" "I" : Cond) ∈ wsM := List.mem_of_getElem? (i := 19) rfl
theorem wM_20 : (.fieldLink RXM 45 "BloodCircuitChannelsModel" "commanded" "I" : Cond) ∈ wsM := List.mem_of_getElem? (i := 20) rfl
theorem wM_21 : (.fieldLink RXM 48 "BloodCircuitChannelsModel" "made" "I" : Cond) ∈ wsM := List.mem_of_getElem? (i := 21) rfl
theorem wM_22 : (.fieldLink RXM 100 "BloodCircuitChannelsModel" "tripped" "I" : Cond) ∈ wsM := List.mem_of_getElem? (i := 22) rfl
theorem wM_23 : (.fieldLink RXM 39 "BloodCircuitChannelsModel" "towards" "I" : Cond) ∈ wsM := List.mem_of_getElem? (i := 23) rfl
theorem wM_24 : (.instanceMethod yXM_set : Cond) ∈ wsM := List.mem_of_getElem? (i := 24) rfl
theorem wM_25 : (.selects RXM yXM_set yXM_set : Cond) ∈ wsM := List.mem_of_getElem? (i := 25) rfl
theorem wM_26 : (.methodLink RXM 29 yXM_least : Cond) ∈ wsM := List.mem_of_getElem? (i := 26) rfl
theorem wM_27 : (.static yXM_least : Cond) ∈ wsM := List.mem_of_getElem? (i := 27) rfl
theorem wM_28 : (.methodLink RXM 33 yXM_most : Cond) ∈ wsM := List.mem_of_getElem? (i := 28) rfl
theorem wM_29 : (.static yXM_most : Cond) ∈ wsM := List.mem_of_getElem? (i := 29) rfl
theorem wM_30 : (.instanceMethod yXM_parameter : Cond) ∈ wsM := List.mem_of_getElem? (i := 30) rfl
theorem wM_31 : (.selects RXM yXM_parameter yXM_parameter : Cond) ∈ wsM := List.mem_of_getElem? (i := 31) rfl
theorem wM_32 : (.instanceMethod yXM_sense : Cond) ∈ wsM := List.mem_of_getElem? (i := 32) rfl
theorem wM_33 : (.selects RXM yXM_sense yXM_sense : Cond) ∈ wsM := List.mem_of_getElem? (i := 33) rfl
theorem wM_34 : (.instanceMethod yXM_conditioned : Cond) ∈ wsM := List.mem_of_getElem? (i := 34) rfl
theorem wM_35 : (.selects RXM yXM_conditioned yXM_conditioned : Cond) ∈ wsM := List.mem_of_getElem? (i := 35) rfl
theorem wM_36 : (.instanceMethod yXM_faulty : Cond) ∈ wsM := List.mem_of_getElem? (i := 36) rfl
theorem wM_37 : (.selects RXM yXM_faulty yXM_faulty : Cond) ∈ wsM := List.mem_of_getElem? (i := 37) rfl
theorem wM_38 : (.instanceMethod yXM_next : Cond) ∈ wsM := List.mem_of_getElem? (i := 38) rfl
theorem wM_39 : (.selects RXM yXM_next yXM_next : Cond) ∈ wsM := List.mem_of_getElem? (i := 39) rfl
theorem wM_40 : (.methodLink RXM 51 yXM_consistent : Cond) ∈ wsM := List.mem_of_getElem? (i := 40) rfl
theorem wM_41 : (.instanceMethod yXM_consistent : Cond) ∈ wsM := List.mem_of_getElem? (i := 41) rfl
theorem wM_42 : (.methodLink RXM 61 yXM_enter : Cond) ∈ wsM := List.mem_of_getElem? (i := 42) rfl
theorem wM_43 : (.instanceMethod yXM_enter : Cond) ∈ wsM := List.mem_of_getElem? (i := 43) rfl
theorem wM_44 : (.instanceMethod yXM_acknowledge : Cond) ∈ wsM := List.mem_of_getElem? (i := 44) rfl
theorem wM_45 : (.selects RXM yXM_acknowledge yXM_acknowledge : Cond) ∈ wsM := List.mem_of_getElem? (i := 45) rfl
theorem wM_46 : (.instanceMethod yXM_substitute : Cond) ∈ wsM := List.mem_of_getElem? (i := 46) rfl
theorem wM_47 : (.selects RXM yXM_substitute yXM_substitute : Cond) ∈ wsM := List.mem_of_getElem? (i := 47) rfl
theorem wM_48 : (.instanceMethod yXM_tick : Cond) ∈ wsM := List.mem_of_getElem? (i := 48) rfl
theorem wM_49 : (.selects RXM yXM_tick yXM_tick : Cond) ∈ wsM := List.mem_of_getElem? (i := 49) rfl
theorem wM_50 : (.methodLink RXM 119 yXM_one : Cond) ∈ wsM := List.mem_of_getElem? (i := 50) rfl
theorem wM_51 : (.instanceMethod yXM_one : Cond) ∈ wsM := List.mem_of_getElem? (i := 51) rfl
theorem wM_52 : (.methodLink RXM 103 yXM_condition : Cond) ∈ wsM := List.mem_of_getElem? (i := 52) rfl
theorem wM_53 : (.instanceMethod yXM_condition : Cond) ∈ wsM := List.mem_of_getElem? (i := 53) rfl
theorem wM_54 : (.methodLink RXM 68 yXM_isPlausible : Cond) ∈ wsM := List.mem_of_getElem? (i := 54) rfl
theorem wM_55 : (.instanceMethod yXM_isPlausible : Cond) ∈ wsM := List.mem_of_getElem? (i := 55) rfl
theorem wM_56 : (.methodLink RXM 72 yXM_onPatient : Cond) ∈ wsM := List.mem_of_getElem? (i := 56) rfl
theorem wM_57 : (.instanceMethod yXM_onPatient : Cond) ∈ wsM := List.mem_of_getElem? (i := 57) rfl
theorem wM_58 : (.methodLink RXM 75 yXM_outside : Cond) ∈ wsM := List.mem_of_getElem? (i := 58) rfl
theorem wM_59 : (.instanceMethod yXM_outside : Cond) ∈ wsM := List.mem_of_getElem? (i := 59) rfl
theorem wM_60 : (.methodLink RXM 85 yXM_off : Cond) ∈ wsM := List.mem_of_getElem? (i := 60) rfl
theorem wM_61 : (.instanceMethod yXM_off : Cond) ∈ wsM := List.mem_of_getElem? (i := 61) rfl
theorem wM_62 : (.methodLink RXM 106 yXM_conditionsNow : Cond) ∈ wsM := List.mem_of_getElem? (i := 62) rfl
theorem wM_63 : (.instanceMethod yXM_conditionsNow : Cond) ∈ wsM := List.mem_of_getElem? (i := 63) rfl
theorem wM_64 : (.methodLink RXM 91 yXM_faulty : Cond) ∈ wsM := List.mem_of_getElem? (i := 64) rfl
theorem wM_65 : (.methodLink RXM 110 yXM_commands : Cond) ∈ wsM := List.mem_of_getElem? (i := 65) rfl
theorem wM_66 : (.instanceMethod yXM_commands : Cond) ∈ wsM := List.mem_of_getElem? (i := 66) rfl
theorem wM_67 : (.constantLong RXM 94 1000 : Cond) ∈ wsM := List.mem_of_getElem? (i := 67) rfl
theorem wM_68 : (.constantLong RXM 96 600 : Cond) ∈ wsM := List.mem_of_getElem? (i := 68) rfl
theorem wM_69 : (.constantLong RXM 98 500 : Cond) ∈ wsM := List.mem_of_getElem? (i := 69) rfl
theorem wM_70 : (.methodLink RXM 113 yXM_guarded : Cond) ∈ wsM := List.mem_of_getElem? (i := 70) rfl
theorem wM_71 : (.instanceMethod yXM_guarded : Cond) ∈ wsM := List.mem_of_getElem? (i := 71) rfl
theorem wM_72 : (.instanceMethod yXM_phase : Cond) ∈ wsM := List.mem_of_getElem? (i := 72) rfl
theorem wM_73 : (.selects RXM yXM_phase yXM_phase : Cond) ∈ wsM := List.mem_of_getElem? (i := 73) rfl
theorem wM_74 : (.instanceMethod yXM_alarms : Cond) ∈ wsM := List.mem_of_getElem? (i := 74) rfl
theorem wM_75 : (.selects RXM yXM_alarms yXM_alarms : Cond) ∈ wsM := List.mem_of_getElem? (i := 75) rfl
theorem wM_76 : (.instanceMethod yXM_conditions : Cond) ∈ wsM := List.mem_of_getElem? (i := 76) rfl
theorem wM_77 : (.selects RXM yXM_conditions yXM_conditions : Cond) ∈ wsM := List.mem_of_getElem? (i := 77) rfl
theorem wM_78 : (.instanceMethod yXM_outputs : Cond) ∈ wsM := List.mem_of_getElem? (i := 78) rfl
theorem wM_79 : (.selects RXM yXM_outputs yXM_outputs : Cond) ∈ wsM := List.mem_of_getElem? (i := 79) rfl
theorem wM_80 : (.instanceMethod yXM_effective : Cond) ∈ wsM := List.mem_of_getElem? (i := 80) rfl
theorem wM_81 : (.selects RXM yXM_effective yXM_effective : Cond) ∈ wsM := List.mem_of_getElem? (i := 81) rfl
theorem wM_82 : (.instanceMethod yXM_accounted : Cond) ∈ wsM := List.mem_of_getElem? (i := 82) rfl
theorem wM_83 : (.selects RXM yXM_accounted yXM_accounted : Cond) ∈ wsM := List.mem_of_getElem? (i := 83) rfl
theorem wM_84 : (.instanceMethod yXM_strokes : Cond) ∈ wsM := List.mem_of_getElem? (i := 84) rfl
theorem wM_85 : (.selects RXM yXM_strokes yXM_strokes : Cond) ∈ wsM := List.mem_of_getElem? (i := 85) rfl
theorem wM_86 : (.instanceMethod yXM_trips : Cond) ∈ wsM := List.mem_of_getElem? (i := 86) rfl
theorem wM_87 : (.selects RXM yXM_trips yXM_trips : Cond) ∈ wsM := List.mem_of_getElem? (i := 87) rfl
theorem wM_88 : (.instanceMethod yXM_counted : Cond) ∈ wsM := List.mem_of_getElem? (i := 88) rfl
theorem wM_89 : (.selects RXM yXM_counted yXM_counted : Cond) ∈ wsM := List.mem_of_getElem? (i := 89) rfl
theorem wM_90 : (.instanceMethod yXM_steady : Cond) ∈ wsM := List.mem_of_getElem? (i := 90) rfl
theorem wM_91 : (.selects RXM yXM_steady yXM_steady : Cond) ∈ wsM := List.mem_of_getElem? (i := 91) rfl
theorem wM_92 : (.selects RXM yXM_consistent yXM_consistent : Cond) ∈ wsM := List.mem_of_getElem? (i := 92) rfl
theorem wM_93 : (.selects RXM yXM_enter yXM_enter : Cond) ∈ wsM := List.mem_of_getElem? (i := 93) rfl
theorem wM_94 : (.selects RXM yXM_one yXM_one : Cond) ∈ wsM := List.mem_of_getElem? (i := 94) rfl
theorem wM_95 : (.selects RXM yXM_condition yXM_condition : Cond) ∈ wsM := List.mem_of_getElem? (i := 95) rfl
theorem wM_96 : (.selects RXM yXM_isPlausible yXM_isPlausible : Cond) ∈ wsM := List.mem_of_getElem? (i := 96) rfl
theorem wM_97 : (.selects RXM yXM_onPatient yXM_onPatient : Cond) ∈ wsM := List.mem_of_getElem? (i := 97) rfl
theorem wM_98 : (.selects RXM yXM_outside yXM_outside : Cond) ∈ wsM := List.mem_of_getElem? (i := 98) rfl
theorem wM_99 : (.selects RXM yXM_off yXM_off : Cond) ∈ wsM := List.mem_of_getElem? (i := 99) rfl
theorem wM_100 : (.selects RXM yXM_conditionsNow yXM_conditionsNow : Cond) ∈ wsM := List.mem_of_getElem? (i := 100) rfl
theorem wM_101 : (.selects RXM yXM_commands yXM_commands : Cond) ∈ wsM := List.mem_of_getElem? (i := 101) rfl
theorem wM_102 : (.selects RXM yXM_guarded yXM_guarded : Cond) ∈ wsM := List.mem_of_getElem? (i := 102) rfl
theorem wM_103 : (.code objectInit ⟨#[0xb1]⟩ 1 none : Cond) ∈ wsM := List.mem_of_getElem? (i := 103) rfl
theorem wM_104 : (.code yXM_init cXM_init 2 none : Cond) ∈ wsM := List.mem_of_getElem? (i := 104) rfl
theorem wM_105 : (.code yXM_set cXM_set 3 (some .boolean) : Cond) ∈ wsM := List.mem_of_getElem? (i := 105) rfl
theorem wM_106 : (.code yXM_least cXM_least 1 (some .int) : Cond) ∈ wsM := List.mem_of_getElem? (i := 106) rfl
theorem wM_107 : (.code yXM_most cXM_most 2 (some .int) : Cond) ∈ wsM := List.mem_of_getElem? (i := 107) rfl
theorem wM_108 : (.code yXM_parameter cXM_parameter 2 (some .int) : Cond) ∈ wsM := List.mem_of_getElem? (i := 108) rfl
theorem wM_109 : (.code yXM_sense cXM_sense 3 (some .boolean) : Cond) ∈ wsM := List.mem_of_getElem? (i := 109) rfl
theorem wM_110 : (.code yXM_conditioned cXM_conditioned 2 (some .int) : Cond) ∈ wsM := List.mem_of_getElem? (i := 110) rfl
theorem wM_111 : (.code yXM_faulty cXM_faulty 2 (some .boolean) : Cond) ∈ wsM := List.mem_of_getElem? (i := 111) rfl
theorem wM_112 : (.code yXM_next cXM_next 2 (some .int) : Cond) ∈ wsM := List.mem_of_getElem? (i := 112) rfl
theorem wM_113 : (.code yXM_consistent cXM_consistent 1 (some .boolean) : Cond) ∈ wsM := List.mem_of_getElem? (i := 113) rfl
theorem wM_114 : (.code yXM_enter cXM_enter 2 none : Cond) ∈ wsM := List.mem_of_getElem? (i := 114) rfl
theorem wM_115 : (.code yXM_acknowledge cXM_acknowledge 1 (some .int) : Cond) ∈ wsM := List.mem_of_getElem? (i := 115) rfl
theorem wM_116 : (.code yXM_substitute cXM_substitute 2 (some .boolean) : Cond) ∈ wsM := List.mem_of_getElem? (i := 116) rfl
theorem wM_117 : (.code yXM_tick cXM_tick 4 (some .int) : Cond) ∈ wsM := List.mem_of_getElem? (i := 117) rfl
theorem wM_118 : (.code yXM_one cXM_one 4 (some .boolean) : Cond) ∈ wsM := List.mem_of_getElem? (i := 118) rfl
theorem wM_119 : (.code yXM_condition cXM_condition 2 none : Cond) ∈ wsM := List.mem_of_getElem? (i := 119) rfl
theorem wM_120 : (.code yXM_isPlausible cXM_isPlausible 4 (some .boolean) : Cond) ∈ wsM := List.mem_of_getElem? (i := 120) rfl
theorem wM_121 : (.code yXM_onPatient cXM_onPatient 1 (some .boolean) : Cond) ∈ wsM := List.mem_of_getElem? (i := 121) rfl
theorem wM_122 : (.code yXM_outside cXM_outside 4 (some .boolean) : Cond) ∈ wsM := List.mem_of_getElem? (i := 122) rfl
theorem wM_123 : (.code yXM_off cXM_off 3 (some .boolean) : Cond) ∈ wsM := List.mem_of_getElem? (i := 123) rfl
theorem wM_124 : (.code yXM_conditionsNow cXM_conditionsNow 4 (some .int) : Cond) ∈ wsM := List.mem_of_getElem? (i := 124) rfl
theorem wM_125 : (.code yXM_commands cXM_commands 5 (some .int) : Cond) ∈ wsM := List.mem_of_getElem? (i := 125) rfl
theorem wM_126 : (.code yXM_guarded cXM_guarded 4 (some .int) : Cond) ∈ wsM := List.mem_of_getElem? (i := 126) rfl
theorem wM_127 : (.code yXM_phase cXM_phase 1 (some .int) : Cond) ∈ wsM := List.mem_of_getElem? (i := 127) rfl
theorem wM_128 : (.code yXM_alarms cXM_alarms 1 (some .int) : Cond) ∈ wsM := List.mem_of_getElem? (i := 128) rfl
theorem wM_129 : (.code yXM_conditions cXM_conditions 1 (some .int) : Cond) ∈ wsM := List.mem_of_getElem? (i := 129) rfl
theorem wM_130 : (.code yXM_outputs cXM_outputs 1 (some .int) : Cond) ∈ wsM := List.mem_of_getElem? (i := 130) rfl
theorem wM_131 : (.code yXM_effective cXM_effective 1 (some .int) : Cond) ∈ wsM := List.mem_of_getElem? (i := 131) rfl
theorem wM_132 : (.code yXM_accounted cXM_accounted 1 (some .int) : Cond) ∈ wsM := List.mem_of_getElem? (i := 132) rfl
theorem wM_133 : (.code yXM_strokes cXM_strokes 1 (some .int) : Cond) ∈ wsM := List.mem_of_getElem? (i := 133) rfl
theorem wM_134 : (.code yXM_trips cXM_trips 1 (some .int) : Cond) ∈ wsM := List.mem_of_getElem? (i := 134) rfl
theorem wM_135 : (.code yXM_counted cXM_counted 1 (some .int) : Cond) ∈ wsM := List.mem_of_getElem? (i := 135) rfl
theorem wM_136 : (.code yXM_steady cXM_steady 1 (some .int) : Cond) ∈ wsM := List.mem_of_getElem? (i := 136) rfl
set_option maxRecDepth 20000 in
theorem wsM_gd : (wsM ++ wsXM0).all goodWord = true := by decide +kernel
set_option maxRecDepth 20000 in
theorem wsM_in : GoodIn lw_tbl wsM := goodIn_p _ [39, 276, 339, 342, 345, 349, 353, 357, 361, 365, 369, 373, 377, 381, 385, 389, 393, 397, 401, 405, 409, 413, 418, 425, 429, 433, 437, 441, 445, 449, 453, 457, 461, 465] (by decide +kernel) (by decide +kernel)
set_option maxRecDepth 20000 in
theorem wsMf_in : ∀ w ∈ wsXM0, w ∈ lw_tbl := by decide +kernel
def wsXM_init : List Cond := .code yXM_init cXM_init 2 none :: (wsM ++ wsXM0)
def wsXM_set : List Cond := .code yXM_set cXM_set 3 (some .boolean) :: (wsM ++ wsXM0)
def wsXM_least : List Cond := .code yXM_least cXM_least 1 (some .int) :: (wsM ++ wsXM0)
def wsXM_most : List Cond := .code yXM_most cXM_most 2 (some .int) :: (wsM ++ wsXM0)
def wsXM_parameter : List Cond := .code yXM_parameter cXM_parameter 2 (some .int) :: (wsM ++ wsXM0)
def wsXM_sense : List Cond := .code yXM_sense cXM_sense 3 (some .boolean) :: (wsM ++ wsXM0)
def wsXM_conditioned : List Cond := .code yXM_conditioned cXM_conditioned 2 (some .int) :: (wsM ++ wsXM0)
def wsXM_faulty : List Cond := .code yXM_faulty cXM_faulty 2 (some .boolean) :: (wsM ++ wsXM0)
def wsXM_next : List Cond := .code yXM_next cXM_next 2 (some .int) :: (wsM ++ wsXM0)
def wsXM_consistent : List Cond := .code yXM_consistent cXM_consistent 1 (some .boolean) :: (wsM ++ wsXM0)
def wsXM_enter : List Cond := .code yXM_enter cXM_enter 2 none :: (wsM ++ wsXM0)
def wsXM_acknowledge : List Cond := .code yXM_acknowledge cXM_acknowledge 1 (some .int) :: (wsM ++ wsXM0)
def wsXM_substitute : List Cond := .code yXM_substitute cXM_substitute 2 (some .boolean) :: (wsM ++ wsXM0)
def wsXM_tick : List Cond := .code yXM_tick cXM_tick 4 (some .int) :: (wsM ++ wsXM0)
def wsXM_one : List Cond := .code yXM_one cXM_one 4 (some .boolean) :: (wsM ++ wsXM0)
def wsXM_condition : List Cond := .code yXM_condition cXM_condition 2 none :: (wsM ++ wsXM0)
def wsXM_isPlausible : List Cond := .code yXM_isPlausible cXM_isPlausible 4 (some .boolean) :: (wsM ++ wsXM0)
def wsXM_onPatient : List Cond := .code yXM_onPatient cXM_onPatient 1 (some .boolean) :: (wsM ++ wsXM0)
def wsXM_outside : List Cond := .code yXM_outside cXM_outside 4 (some .boolean) :: (wsM ++ wsXM0)
def wsXM_off : List Cond := .code yXM_off cXM_off 3 (some .boolean) :: (wsM ++ wsXM0)
def wsXM_conditionsNow : List Cond := .code yXM_conditionsNow cXM_conditionsNow 4 (some .int) :: (wsM ++ wsXM0)
def wsXM_commands : List Cond := .code yXM_commands cXM_commands 5 (some .int) :: (wsM ++ wsXM0)
def wsXM_guarded : List Cond := .code yXM_guarded cXM_guarded 4 (some .int) :: (wsM ++ wsXM0)
def wsXM_phase : List Cond := .code yXM_phase cXM_phase 1 (some .int) :: (wsM ++ wsXM0)
def wsXM_alarms : List Cond := .code yXM_alarms cXM_alarms 1 (some .int) :: (wsM ++ wsXM0)
def wsXM_conditions : List Cond := .code yXM_conditions cXM_conditions 1 (some .int) :: (wsM ++ wsXM0)
def wsXM_outputs : List Cond := .code yXM_outputs cXM_outputs 1 (some .int) :: (wsM ++ wsXM0)
def wsXM_effective : List Cond := .code yXM_effective cXM_effective 1 (some .int) :: (wsM ++ wsXM0)
def wsXM_accounted : List Cond := .code yXM_accounted cXM_accounted 1 (some .int) :: (wsM ++ wsXM0)
def wsXM_strokes : List Cond := .code yXM_strokes cXM_strokes 1 (some .int) :: (wsM ++ wsXM0)
def wsXM_trips : List Cond := .code yXM_trips cXM_trips 1 (some .int) :: (wsM ++ wsXM0)
def wsXM_counted : List Cond := .code yXM_counted cXM_counted 1 (some .int) :: (wsM ++ wsXM0)
def wsXM_steady : List Cond := .code yXM_steady cXM_steady 1 (some .int) :: (wsM ++ wsXM0)
theorem gM_of {c c1 : Cond} {l : List Cond} (h1 : c1 ∈ wsM) (hl : ∀ w ∈ l, w ∈ wsM) : GoodIn (c :: (wsM ++ wsXM0)) (l ++ c1 :: (wsM ++ wsXM0)) := by
  have hg := List.all_eq_true.mp wsM_gd
  intro w hw
  rcases List.mem_append.mp hw with h | h
  · exact ⟨List.mem_cons_of_mem _ (List.mem_append_left _ (hl w h)), good_of_word (hg w (List.mem_append_left _ (hl w h)))⟩
  · rcases List.mem_cons.mp h with rfl | h
    · exact ⟨List.mem_cons_of_mem _ (List.mem_append_left _ h1), good_of_word (hg w (List.mem_append_left _ h1))⟩
    · exact ⟨List.mem_cons_of_mem _ h, good_of_word (hg w h)⟩
theorem gLM_of {c1 : Cond} {l : List Cond} (h1 : c1 ∈ wsM) (hl : GoodIn lw_tbl l) : GoodIn lw_tbl (l ++ c1 :: (wsM ++ wsXM0)) := by
  have hg := List.all_eq_true.mp wsM_gd
  intro w hw
  rcases List.mem_append.mp hw with h | h
  · exact hl w h
  · rcases List.mem_cons.mp h with rfl | h
    · exact wsM_in w h1
    · rcases List.mem_append.mp h with h2 | h2
      · exact wsM_in w h2
      · exact ⟨wsMf_in w h2, good_of_word (hg w (List.mem_append_right _ h2))⟩
theorem gXM_set_XM_least : GoodIn wsXM_set (va_wsS RXM 29 yXM_least wsXM_least) := gM_of (l := [.methodLink RXM 29 yXM_least, .static yXM_least, .initialized RXM]) wM_106 (List.forall_mem_cons.mpr ⟨wM_26, List.forall_mem_cons.mpr ⟨wM_27, List.forall_mem_cons.mpr ⟨wM_0, fun _ h => absurd h List.not_mem_nil⟩⟩⟩)
theorem gXM_set_XM_most : GoodIn wsXM_set (va_wsS RXM 33 yXM_most wsXM_most) := gM_of (l := [.methodLink RXM 33 yXM_most, .static yXM_most, .initialized RXM]) wM_107 (List.forall_mem_cons.mpr ⟨wM_28, List.forall_mem_cons.mpr ⟨wM_29, List.forall_mem_cons.mpr ⟨wM_0, fun _ h => absurd h List.not_mem_nil⟩⟩⟩)
theorem gXM_next_XM_consistent : GoodIn wsXM_next (wsV RXM 51 RXM yXM_consistent wsXM_consistent) := gM_of (l := [.methodLink RXM 51 yXM_consistent, .instanceMethod yXM_consistent, .selects RXM yXM_consistent yXM_consistent, .initialized RXM]) wM_113 (List.forall_mem_cons.mpr ⟨wM_40, List.forall_mem_cons.mpr ⟨wM_41, List.forall_mem_cons.mpr ⟨wM_92, List.forall_mem_cons.mpr ⟨wM_0, fun _ h => absurd h List.not_mem_nil⟩⟩⟩⟩)
theorem gXM_next_XM_enter : GoodIn wsXM_next (wsV RXM 61 RXM yXM_enter wsXM_enter) := gM_of (l := [.methodLink RXM 61 yXM_enter, .instanceMethod yXM_enter, .selects RXM yXM_enter yXM_enter, .initialized RXM]) wM_114 (List.forall_mem_cons.mpr ⟨wM_42, List.forall_mem_cons.mpr ⟨wM_43, List.forall_mem_cons.mpr ⟨wM_93, List.forall_mem_cons.mpr ⟨wM_0, fun _ h => absurd h List.not_mem_nil⟩⟩⟩⟩)
theorem gXM_condition_XM_isPlausible : GoodIn wsXM_condition (wsV RXM 68 RXM yXM_isPlausible wsXM_isPlausible) := gM_of (l := [.methodLink RXM 68 yXM_isPlausible, .instanceMethod yXM_isPlausible, .selects RXM yXM_isPlausible yXM_isPlausible, .initialized RXM]) wM_120 (List.forall_mem_cons.mpr ⟨wM_54, List.forall_mem_cons.mpr ⟨wM_55, List.forall_mem_cons.mpr ⟨wM_96, List.forall_mem_cons.mpr ⟨wM_0, fun _ h => absurd h List.not_mem_nil⟩⟩⟩⟩)
theorem gXM_condition_XM_onPatient : GoodIn wsXM_condition (wsV RXM 72 RXM yXM_onPatient wsXM_onPatient) := gM_of (l := [.methodLink RXM 72 yXM_onPatient, .instanceMethod yXM_onPatient, .selects RXM yXM_onPatient yXM_onPatient, .initialized RXM]) wM_121 (List.forall_mem_cons.mpr ⟨wM_56, List.forall_mem_cons.mpr ⟨wM_57, List.forall_mem_cons.mpr ⟨wM_97, List.forall_mem_cons.mpr ⟨wM_0, fun _ h => absurd h List.not_mem_nil⟩⟩⟩⟩)
theorem gXM_condition_XM_outside : GoodIn wsXM_condition (wsV RXM 75 RXM yXM_outside wsXM_outside) := gM_of (l := [.methodLink RXM 75 yXM_outside, .instanceMethod yXM_outside, .selects RXM yXM_outside yXM_outside, .initialized RXM]) wM_122 (List.forall_mem_cons.mpr ⟨wM_58, List.forall_mem_cons.mpr ⟨wM_59, List.forall_mem_cons.mpr ⟨wM_98, List.forall_mem_cons.mpr ⟨wM_0, fun _ h => absurd h List.not_mem_nil⟩⟩⟩⟩)
theorem gXM_condition_XM_off : GoodIn wsXM_condition (wsV RXM 85 RXM yXM_off wsXM_off) := gM_of (l := [.methodLink RXM 85 yXM_off, .instanceMethod yXM_off, .selects RXM yXM_off yXM_off, .initialized RXM]) wM_123 (List.forall_mem_cons.mpr ⟨wM_60, List.forall_mem_cons.mpr ⟨wM_61, List.forall_mem_cons.mpr ⟨wM_99, List.forall_mem_cons.mpr ⟨wM_0, fun _ h => absurd h List.not_mem_nil⟩⟩⟩⟩)
theorem gXM_conditionsNow_XM_onPatient : GoodIn wsXM_conditionsNow (wsV RXM 72 RXM yXM_onPatient wsXM_onPatient) := gM_of (l := [.methodLink RXM 72 yXM_onPatient, .instanceMethod yXM_onPatient, .selects RXM yXM_onPatient yXM_onPatient, .initialized RXM]) wM_121 (List.forall_mem_cons.mpr ⟨wM_56, List.forall_mem_cons.mpr ⟨wM_57, List.forall_mem_cons.mpr ⟨wM_97, List.forall_mem_cons.mpr ⟨wM_0, fun _ h => absurd h List.not_mem_nil⟩⟩⟩⟩)
theorem gXM_conditionsNow_XM_faulty : GoodIn wsXM_conditionsNow (wsV RXM 91 RXM yXM_faulty wsXM_faulty) := gM_of (l := [.methodLink RXM 91 yXM_faulty, .instanceMethod yXM_faulty, .selects RXM yXM_faulty yXM_faulty, .initialized RXM]) wM_111 (List.forall_mem_cons.mpr ⟨wM_64, List.forall_mem_cons.mpr ⟨wM_36, List.forall_mem_cons.mpr ⟨wM_37, List.forall_mem_cons.mpr ⟨wM_0, fun _ h => absurd h List.not_mem_nil⟩⟩⟩⟩)
theorem gXM_guarded_XM_onPatient : GoodIn wsXM_guarded (wsV RXM 72 RXM yXM_onPatient wsXM_onPatient) := gM_of (l := [.methodLink RXM 72 yXM_onPatient, .instanceMethod yXM_onPatient, .selects RXM yXM_onPatient yXM_onPatient, .initialized RXM]) wM_121 (List.forall_mem_cons.mpr ⟨wM_56, List.forall_mem_cons.mpr ⟨wM_57, List.forall_mem_cons.mpr ⟨wM_97, List.forall_mem_cons.mpr ⟨wM_0, fun _ h => absurd h List.not_mem_nil⟩⟩⟩⟩)
theorem gXM_guarded_XM_outside : GoodIn wsXM_guarded (wsV RXM 75 RXM yXM_outside wsXM_outside) := gM_of (l := [.methodLink RXM 75 yXM_outside, .instanceMethod yXM_outside, .selects RXM yXM_outside yXM_outside, .initialized RXM]) wM_122 (List.forall_mem_cons.mpr ⟨wM_58, List.forall_mem_cons.mpr ⟨wM_59, List.forall_mem_cons.mpr ⟨wM_98, List.forall_mem_cons.mpr ⟨wM_0, fun _ h => absurd h List.not_mem_nil⟩⟩⟩⟩)
theorem gXM_one_XM_condition : GoodIn wsXM_one (wsV RXM 103 RXM yXM_condition wsXM_condition) := gM_of (l := [.methodLink RXM 103 yXM_condition, .instanceMethod yXM_condition, .selects RXM yXM_condition yXM_condition, .initialized RXM]) wM_119 (List.forall_mem_cons.mpr ⟨wM_52, List.forall_mem_cons.mpr ⟨wM_53, List.forall_mem_cons.mpr ⟨wM_95, List.forall_mem_cons.mpr ⟨wM_0, fun _ h => absurd h List.not_mem_nil⟩⟩⟩⟩)
theorem gXM_one_XM_conditionsNow : GoodIn wsXM_one (wsV RXM 106 RXM yXM_conditionsNow wsXM_conditionsNow) := gM_of (l := [.methodLink RXM 106 yXM_conditionsNow, .instanceMethod yXM_conditionsNow, .selects RXM yXM_conditionsNow yXM_conditionsNow, .initialized RXM]) wM_124 (List.forall_mem_cons.mpr ⟨wM_62, List.forall_mem_cons.mpr ⟨wM_63, List.forall_mem_cons.mpr ⟨wM_100, List.forall_mem_cons.mpr ⟨wM_0, fun _ h => absurd h List.not_mem_nil⟩⟩⟩⟩)
theorem gXM_one_XM_commands : GoodIn wsXM_one (wsV RXM 110 RXM yXM_commands wsXM_commands) := gM_of (l := [.methodLink RXM 110 yXM_commands, .instanceMethod yXM_commands, .selects RXM yXM_commands yXM_commands, .initialized RXM]) wM_125 (List.forall_mem_cons.mpr ⟨wM_65, List.forall_mem_cons.mpr ⟨wM_66, List.forall_mem_cons.mpr ⟨wM_101, List.forall_mem_cons.mpr ⟨wM_0, fun _ h => absurd h List.not_mem_nil⟩⟩⟩⟩)
theorem gXM_one_XM_guarded : GoodIn wsXM_one (wsV RXM 113 RXM yXM_guarded wsXM_guarded) := gM_of (l := [.methodLink RXM 113 yXM_guarded, .instanceMethod yXM_guarded, .selects RXM yXM_guarded yXM_guarded, .initialized RXM]) wM_126 (List.forall_mem_cons.mpr ⟨wM_70, List.forall_mem_cons.mpr ⟨wM_71, List.forall_mem_cons.mpr ⟨wM_102, List.forall_mem_cons.mpr ⟨wM_0, fun _ h => absurd h List.not_mem_nil⟩⟩⟩⟩)
theorem gXM_one_XM_enter : GoodIn wsXM_one (wsV RXM 61 RXM yXM_enter wsXM_enter) := gM_of (l := [.methodLink RXM 61 yXM_enter, .instanceMethod yXM_enter, .selects RXM yXM_enter yXM_enter, .initialized RXM]) wM_114 (List.forall_mem_cons.mpr ⟨wM_42, List.forall_mem_cons.mpr ⟨wM_43, List.forall_mem_cons.mpr ⟨wM_93, List.forall_mem_cons.mpr ⟨wM_0, fun _ h => absurd h List.not_mem_nil⟩⟩⟩⟩)
theorem gXM_tick_XM_one : GoodIn wsXM_tick (wsV RXM 119 RXM yXM_one wsXM_one) := gM_of (l := [.methodLink RXM 119 yXM_one, .instanceMethod yXM_one, .selects RXM yXM_one yXM_one, .initialized RXM]) wM_118 (List.forall_mem_cons.mpr ⟨wM_50, List.forall_mem_cons.mpr ⟨wM_51, List.forall_mem_cons.mpr ⟨wM_94, List.forall_mem_cons.mpr ⟨wM_0, fun _ h => absurd h List.not_mem_nil⟩⟩⟩⟩)
end
section
theorem dXM_init_0 : decode cXM_init 0 = .ok (.aload_n 0, 1) := by decide +kernel
theorem dXM_init_1 : decode cXM_init 1 = .ok (.invokespecial 1, 3) := by decide +kernel
theorem dXM_init_4 : decode cXM_init 4 = .ok (.aload_n 0, 1) := by decide +kernel
theorem dXM_init_5 : decode cXM_init 5 = .ok (.bipush 10, 2) := by decide +kernel
theorem dXM_init_7 : decode cXM_init 7 = .ok (.newarray .int, 2) := by decide +kernel
theorem dXM_init_9 : decode cXM_init 9 = .ok (.putfield 7, 3) := by decide +kernel
theorem dXM_init_12 : decode cXM_init 12 = .ok (.aload_n 0, 1) := by decide +kernel
theorem dXM_init_13 : decode cXM_init 13 = .ok (.bipush 6, 2) := by decide +kernel
theorem dXM_init_15 : decode cXM_init 15 = .ok (.newarray .int, 2) := by decide +kernel
theorem dXM_init_17 : decode cXM_init 17 = .ok (.putfield 13, 3) := by decide +kernel
theorem dXM_init_20 : decode cXM_init 20 = .ok (.aload_n 0, 1) := by decide +kernel
theorem dXM_init_21 : decode cXM_init 21 = .ok (.bipush 6, 2) := by decide +kernel
theorem dXM_init_23 : decode cXM_init 23 = .ok (.newarray .int, 2) := by decide +kernel
theorem dXM_init_25 : decode cXM_init 25 = .ok (.putfield 16, 3) := by decide +kernel
theorem dXM_init_28 : decode cXM_init 28 = .ok (.aload_n 0, 1) := by decide +kernel
theorem dXM_init_29 : decode cXM_init 29 = .ok (.iconst (-1), 1) := by decide +kernel
theorem dXM_init_30 : decode cXM_init 30 = .ok (.putfield 19, 3) := by decide +kernel
theorem dXM_init_33 : decode cXM_init 33 = .ok (.aload_n 0, 1) := by decide +kernel
theorem dXM_init_34 : decode cXM_init 34 = .ok (.bipush 6, 2) := by decide +kernel
theorem dXM_init_36 : decode cXM_init 36 = .ok (.newarray .int, 2) := by decide +kernel
theorem dXM_init_38 : decode cXM_init 38 = .ok (.putfield 23, 3) := by decide +kernel
theorem dXM_init_41 : decode cXM_init 41 = .ok (.iconst 0, 1) := by decide +kernel
theorem dXM_init_42 : decode cXM_init 42 = .ok (.istore_n 1, 1) := by decide +kernel
theorem dXM_init_43 : decode cXM_init 43 = .ok (.iload_n 1, 1) := by decide +kernel
theorem dXM_init_44 : decode cXM_init 44 = .ok (.bipush 10, 2) := by decide +kernel
theorem dXM_init_46 : decode cXM_init 46 = .ok (.if_icmp .ge 116, 3) := by decide +kernel
theorem dXM_init_49 : decode cXM_init 49 = .ok (.aload_n 0, 1) := by decide +kernel
theorem dXM_init_50 : decode cXM_init 50 = .ok (.getfield 7, 3) := by decide +kernel
theorem dXM_init_53 : decode cXM_init 53 = .ok (.iload_n 1, 1) := by decide +kernel
theorem dXM_init_54 : decode cXM_init 54 = .ok (.iload_n 1, 1) := by decide +kernel
theorem dXM_init_55 : decode cXM_init 55 = .ok (.ifCond .ne 9, 3) := by decide +kernel
theorem dXM_init_58 : decode cXM_init 58 = .ok (.sipush 300, 3) := by decide +kernel
theorem dXM_init_61 : decode cXM_init 61 = .ok (.goto 94, 3) := by decide +kernel
theorem dXM_init_64 : decode cXM_init 64 = .ok (.iload_n 1, 1) := by decide +kernel
theorem dXM_init_65 : decode cXM_init 65 = .ok (.iconst 2, 1) := by decide +kernel
theorem dXM_init_66 : decode cXM_init 66 = .ok (.if_icmp .ne 9, 3) := by decide +kernel
theorem dXM_init_69 : decode cXM_init 69 = .ok (.sipush 1000, 3) := by decide +kernel
theorem dXM_init_72 : decode cXM_init 72 = .ok (.goto 83, 3) := by decide +kernel
theorem dXM_init_75 : decode cXM_init 75 = .ok (.iload_n 1, 1) := by decide +kernel
theorem dXM_init_76 : decode cXM_init 76 = .ok (.iconst 3, 1) := by decide +kernel
theorem dXM_init_77 : decode cXM_init 77 = .ok (.if_icmp .ne 9, 3) := by decide +kernel
theorem dXM_init_80 : decode cXM_init 80 = .ok (.sipush 240, 3) := by decide +kernel
theorem dXM_init_83 : decode cXM_init 83 = .ok (.goto 72, 3) := by decide +kernel
theorem dXM_init_86 : decode cXM_init 86 = .ok (.iload_n 1, 1) := by decide +kernel
theorem dXM_init_87 : decode cXM_init 87 = .ok (.iconst 4, 1) := by decide +kernel
theorem dXM_init_88 : decode cXM_init 88 = .ok (.if_icmp .ne 9, 3) := by decide +kernel
theorem dXM_init_91 : decode cXM_init 91 = .ok (.sipush 370, 3) := by decide +kernel
theorem dXM_init_94 : decode cXM_init 94 = .ok (.goto 61, 3) := by decide +kernel
theorem dXM_init_97 : decode cXM_init 97 = .ok (.iload_n 1, 1) := by decide +kernel
theorem dXM_init_98 : decode cXM_init 98 = .ok (.iconst 5, 1) := by decide +kernel
theorem dXM_init_99 : decode cXM_init 99 = .ok (.if_icmp .ne 9, 3) := by decide +kernel
theorem dXM_init_102 : decode cXM_init 102 = .ok (.sipush 1400, 3) := by decide +kernel
theorem dXM_init_105 : decode cXM_init 105 = .ok (.goto 50, 3) := by decide +kernel
theorem dXM_init_108 : decode cXM_init 108 = .ok (.iload_n 1, 1) := by decide +kernel
theorem dXM_init_109 : decode cXM_init 109 = .ok (.bipush 6, 2) := by decide +kernel
theorem dXM_init_111 : decode cXM_init 111 = .ok (.if_icmp .ne 9, 3) := by decide +kernel
theorem dXM_init_114 : decode cXM_init 114 = .ok (.sipush (-200), 3) := by decide +kernel
theorem dXM_init_117 : decode cXM_init 117 = .ok (.goto 38, 3) := by decide +kernel
theorem dXM_init_120 : decode cXM_init 120 = .ok (.iload_n 1, 1) := by decide +kernel
theorem dXM_init_121 : decode cXM_init 121 = .ok (.bipush 7, 2) := by decide +kernel
theorem dXM_init_123 : decode cXM_init 123 = .ok (.if_icmp .ne 8, 3) := by decide +kernel
theorem dXM_init_126 : decode cXM_init 126 = .ok (.bipush 100, 2) := by decide +kernel
theorem dXM_init_128 : decode cXM_init 128 = .ok (.goto 27, 3) := by decide +kernel
theorem dXM_init_131 : decode cXM_init 131 = .ok (.iload_n 1, 1) := by decide +kernel
theorem dXM_init_132 : decode cXM_init 132 = .ok (.bipush 8, 2) := by decide +kernel
theorem dXM_init_134 : decode cXM_init 134 = .ok (.if_icmp .ne 8, 3) := by decide +kernel
theorem dXM_init_137 : decode cXM_init 137 = .ok (.bipush 50, 2) := by decide +kernel
theorem dXM_init_139 : decode cXM_init 139 = .ok (.goto 16, 3) := by decide +kernel
theorem dXM_init_142 : decode cXM_init 142 = .ok (.iload_n 1, 1) := by decide +kernel
theorem dXM_init_143 : decode cXM_init 143 = .ok (.bipush 9, 2) := by decide +kernel
theorem dXM_init_145 : decode cXM_init 145 = .ok (.if_icmp .ne 9, 3) := by decide +kernel
theorem dXM_init_148 : decode cXM_init 148 = .ok (.sipush 300, 3) := by decide +kernel
theorem dXM_init_151 : decode cXM_init 151 = .ok (.goto 4, 3) := by decide +kernel
theorem dXM_init_154 : decode cXM_init 154 = .ok (.iconst 0, 1) := by decide +kernel
theorem dXM_init_155 : decode cXM_init 155 = .ok (.iastore, 1) := by decide +kernel
theorem dXM_init_156 : decode cXM_init 156 = .ok (.iinc 1 1, 3) := by decide +kernel
theorem dXM_init_159 : decode cXM_init 159 = .ok (.goto (-116), 3) := by decide +kernel
theorem dXM_init_162 : decode cXM_init 162 = .ok (.iconst 0, 1) := by decide +kernel
theorem dXM_init_163 : decode cXM_init 163 = .ok (.istore_n 1, 1) := by decide +kernel
theorem dXM_init_164 : decode cXM_init 164 = .ok (.iload_n 1, 1) := by decide +kernel
theorem dXM_init_165 : decode cXM_init 165 = .ok (.bipush 6, 2) := by decide +kernel
theorem dXM_init_167 : decode cXM_init 167 = .ok (.if_icmp .ge 60, 3) := by decide +kernel
theorem dXM_init_170 : decode cXM_init 170 = .ok (.aload_n 0, 1) := by decide +kernel
theorem dXM_init_171 : decode cXM_init 171 = .ok (.getfield 13, 3) := by decide +kernel
theorem dXM_init_174 : decode cXM_init 174 = .ok (.iload_n 1, 1) := by decide +kernel
theorem dXM_init_175 : decode cXM_init 175 = .ok (.iload_n 1, 1) := by decide +kernel
theorem dXM_init_176 : decode cXM_init 176 = .ok (.iconst 1, 1) := by decide +kernel
theorem dXM_init_177 : decode cXM_init 177 = .ok (.if_icmp .ne 8, 3) := by decide +kernel
theorem dXM_init_180 : decode cXM_init 180 = .ok (.bipush 100, 2) := by decide +kernel
theorem dXM_init_182 : decode cXM_init 182 = .ok (.goto 26, 3) := by decide +kernel
theorem dXM_init_185 : decode cXM_init 185 = .ok (.iload_n 1, 1) := by decide +kernel
theorem dXM_init_186 : decode cXM_init 186 = .ok (.iconst 2, 1) := by decide +kernel
theorem dXM_init_187 : decode cXM_init 187 = .ok (.if_icmp .ne 9, 3) := by decide +kernel
theorem dXM_init_190 : decode cXM_init 190 = .ok (.sipush 370, 3) := by decide +kernel
theorem dXM_init_193 : decode cXM_init 193 = .ok (.goto 15, 3) := by decide +kernel
theorem dXM_init_196 : decode cXM_init 196 = .ok (.iload_n 1, 1) := by decide +kernel
theorem dXM_init_197 : decode cXM_init 197 = .ok (.iconst 3, 1) := by decide +kernel
theorem dXM_init_198 : decode cXM_init 198 = .ok (.if_icmp .ne 9, 3) := by decide +kernel
theorem dXM_init_201 : decode cXM_init 201 = .ok (.sipush 1400, 3) := by decide +kernel
theorem dXM_init_204 : decode cXM_init 204 = .ok (.goto 4, 3) := by decide +kernel
theorem dXM_init_207 : decode cXM_init 207 = .ok (.iconst 0, 1) := by decide +kernel
theorem dXM_init_208 : decode cXM_init 208 = .ok (.iastore, 1) := by decide +kernel
theorem dXM_init_209 : decode cXM_init 209 = .ok (.aload_n 0, 1) := by decide +kernel
theorem dXM_init_210 : decode cXM_init 210 = .ok (.getfield 16, 3) := by decide +kernel
theorem dXM_init_213 : decode cXM_init 213 = .ok (.iload_n 1, 1) := by decide +kernel
theorem dXM_init_214 : decode cXM_init 214 = .ok (.aload_n 0, 1) := by decide +kernel
theorem dXM_init_215 : decode cXM_init 215 = .ok (.getfield 13, 3) := by decide +kernel
theorem dXM_init_218 : decode cXM_init 218 = .ok (.iload_n 1, 1) := by decide +kernel
theorem dXM_init_219 : decode cXM_init 219 = .ok (.iaload, 1) := by decide +kernel
theorem dXM_init_220 : decode cXM_init 220 = .ok (.iastore, 1) := by decide +kernel
theorem dXM_init_221 : decode cXM_init 221 = .ok (.iinc 1 1, 3) := by decide +kernel
theorem dXM_init_224 : decode cXM_init 224 = .ok (.goto (-60), 3) := by decide +kernel
theorem dXM_init_227 : decode cXM_init 227 = .ok (.return_, 1) := by decide +kernel
theorem dXM_least_0 : decode cXM_least 0 = .ok (.iload_n 0, 1) := by decide +kernel
theorem dXM_least_1 : decode cXM_least 1 = .ok (.ifCond .eq 9, 3) := by decide +kernel
theorem dXM_least_4 : decode cXM_least 4 = .ok (.iload_n 0, 1) := by decide +kernel
theorem dXM_least_5 : decode cXM_least 5 = .ok (.bipush 9, 2) := by decide +kernel
theorem dXM_least_7 : decode cXM_least 7 = .ok (.if_icmp .ne 8, 3) := by decide +kernel
theorem dXM_least_10 : decode cXM_least 10 = .ok (.bipush 50, 2) := by decide +kernel
theorem dXM_least_12 : decode cXM_least 12 = .ok (.goto 59, 3) := by decide +kernel
theorem dXM_least_15 : decode cXM_least 15 = .ok (.iload_n 0, 1) := by decide +kernel
theorem dXM_least_16 : decode cXM_least 16 = .ok (.iconst 3, 1) := by decide +kernel
theorem dXM_least_17 : decode cXM_least 17 = .ok (.if_icmp .ne 7, 3) := by decide +kernel
theorem dXM_least_20 : decode cXM_least 20 = .ok (.iconst 1, 1) := by decide +kernel
theorem dXM_least_21 : decode cXM_least 21 = .ok (.goto 50, 3) := by decide +kernel
theorem dXM_least_24 : decode cXM_least 24 = .ok (.iload_n 0, 1) := by decide +kernel
theorem dXM_least_25 : decode cXM_least 25 = .ok (.iconst 4, 1) := by decide +kernel
theorem dXM_least_26 : decode cXM_least 26 = .ok (.if_icmp .ne 9, 3) := by decide +kernel
theorem dXM_least_29 : decode cXM_least 29 = .ok (.sipush 340, 3) := by decide +kernel
theorem dXM_least_32 : decode cXM_least 32 = .ok (.goto 39, 3) := by decide +kernel
theorem dXM_least_35 : decode cXM_least 35 = .ok (.iload_n 0, 1) := by decide +kernel
theorem dXM_least_36 : decode cXM_least 36 = .ok (.iconst 5, 1) := by decide +kernel
theorem dXM_least_37 : decode cXM_least 37 = .ok (.if_icmp .ne 9, 3) := by decide +kernel
theorem dXM_least_40 : decode cXM_least 40 = .ok (.sipush 1250, 3) := by decide +kernel
theorem dXM_least_43 : decode cXM_least 43 = .ok (.goto 28, 3) := by decide +kernel
theorem dXM_least_46 : decode cXM_least 46 = .ok (.iload_n 0, 1) := by decide +kernel
theorem dXM_least_47 : decode cXM_least 47 = .ok (.bipush 6, 2) := by decide +kernel
theorem dXM_least_49 : decode cXM_least 49 = .ok (.if_icmp .ne 9, 3) := by decide +kernel
theorem dXM_least_52 : decode cXM_least 52 = .ok (.sipush (-400), 3) := by decide +kernel
theorem dXM_least_55 : decode cXM_least 55 = .ok (.goto 16, 3) := by decide +kernel
theorem dXM_least_58 : decode cXM_least 58 = .ok (.iload_n 0, 1) := by decide +kernel
theorem dXM_least_59 : decode cXM_least 59 = .ok (.bipush 7, 2) := by decide +kernel
theorem dXM_least_61 : decode cXM_least 61 = .ok (.if_icmp .ne 9, 3) := by decide +kernel
theorem dXM_least_64 : decode cXM_least 64 = .ok (.sipush (-300), 3) := by decide +kernel
theorem dXM_least_67 : decode cXM_least 67 = .ok (.goto 4, 3) := by decide +kernel
theorem dXM_least_70 : decode cXM_least 70 = .ok (.iconst 0, 1) := by decide +kernel
theorem dXM_least_71 : decode cXM_least 71 = .ok (.ireturn, 1) := by decide +kernel
theorem dXM_most_0 : decode cXM_most 0 = .ok (.iload_n 0, 1) := by decide +kernel
theorem dXM_most_1 : decode cXM_most 1 = .ok (.ifCond .eq 8, 3) := by decide +kernel
theorem dXM_most_4 : decode cXM_most 4 = .ok (.iload_n 0, 1) := by decide +kernel
theorem dXM_most_5 : decode cXM_most 5 = .ok (.iconst 3, 1) := by decide +kernel
theorem dXM_most_6 : decode cXM_most 6 = .ok (.if_icmp .ne 9, 3) := by decide +kernel
theorem dXM_most_9 : decode cXM_most 9 = .ok (.sipush 600, 3) := by decide +kernel
theorem dXM_most_12 : decode cXM_most 12 = .ok (.goto 39, 3) := by decide +kernel
theorem dXM_most_15 : decode cXM_most 15 = .ok (.iload_n 0, 1) := by decide +kernel
theorem dXM_most_16 : decode cXM_most 16 = .ok (.iconst 1, 1) := by decide +kernel
theorem dXM_most_17 : decode cXM_most 17 = .ok (.if_icmp .ne 9, 3) := by decide +kernel
theorem dXM_most_20 : decode cXM_most 20 = .ok (.sipush 6000, 3) := by decide +kernel
theorem dXM_most_23 : decode cXM_most 23 = .ok (.goto 28, 3) := by decide +kernel
theorem dXM_most_26 : decode cXM_most 26 = .ok (.iload_n 0, 1) := by decide +kernel
theorem dXM_most_27 : decode cXM_most 27 = .ok (.iconst 2, 1) := by decide +kernel
theorem dXM_most_28 : decode cXM_most 28 = .ok (.if_icmp .ne 9, 3) := by decide +kernel
theorem dXM_most_31 : decode cXM_most 31 = .ok (.sipush 2000, 3) := by decide +kernel
theorem dXM_most_34 : decode cXM_most 34 = .ok (.goto 17, 3) := by decide +kernel
theorem dXM_most_37 : decode cXM_most 37 = .ok (.iload_n 0, 1) := by decide +kernel
theorem dXM_most_38 : decode cXM_most 38 = .ok (.iconst 4, 1) := by decide +kernel
theorem dXM_most_39 : decode cXM_most 39 = .ok (.if_icmp .ne 9, 3) := by decide +kernel
theorem dXM_most_42 : decode cXM_most 42 = .ok (.sipush 390, 3) := by decide +kernel
theorem dXM_most_45 : decode cXM_most 45 = .ok (.goto 6, 3) := by decide +kernel
theorem dXM_most_48 : decode cXM_most 48 = .ok (.sipush 1600, 3) := by decide +kernel
theorem dXM_most_51 : decode cXM_most 51 = .ok (.istore_n 1, 1) := by decide +kernel
theorem dXM_most_52 : decode cXM_most 52 = .ok (.iload_n 0, 1) := by decide +kernel
theorem dXM_most_53 : decode cXM_most 53 = .ok (.iconst 5, 1) := by decide +kernel
theorem dXM_most_54 : decode cXM_most 54 = .ok (.if_icmp .gt 7, 3) := by decide +kernel
theorem dXM_most_57 : decode cXM_most 57 = .ok (.iload_n 1, 1) := by decide +kernel
theorem dXM_most_58 : decode cXM_most 58 = .ok (.goto 28, 3) := by decide +kernel
theorem dXM_most_61 : decode cXM_most 61 = .ok (.iload_n 0, 1) := by decide +kernel
theorem dXM_most_62 : decode cXM_most 62 = .ok (.bipush 6, 2) := by decide +kernel
theorem dXM_most_64 : decode cXM_most 64 = .ok (.if_icmp .ne 7, 3) := by decide +kernel
theorem dXM_most_67 : decode cXM_most 67 = .ok (.iconst 0, 1) := by decide +kernel
theorem dXM_most_68 : decode cXM_most 68 = .ok (.goto 18, 3) := by decide +kernel
theorem dXM_most_71 : decode cXM_most 71 = .ok (.iload_n 0, 1) := by decide +kernel
theorem dXM_most_72 : decode cXM_most 72 = .ok (.bipush 9, 2) := by decide +kernel
theorem dXM_most_74 : decode cXM_most 74 = .ok (.if_icmp .ne 9, 3) := by decide +kernel
theorem dXM_most_77 : decode cXM_most 77 = .ok (.sipush 500, 3) := by decide +kernel
theorem dXM_most_80 : decode cXM_most 80 = .ok (.goto 6, 3) := by decide +kernel
theorem dXM_most_83 : decode cXM_most 83 = .ok (.sipush 200, 3) := by decide +kernel
theorem dXM_most_86 : decode cXM_most 86 = .ok (.ireturn, 1) := by decide +kernel
theorem dXM_consistent_0 : decode cXM_consistent 0 = .ok (.aload_n 0, 1) := by decide +kernel
theorem dXM_consistent_1 : decode cXM_consistent 1 = .ok (.getfield 7, 3) := by decide +kernel
theorem dXM_consistent_4 : decode cXM_consistent 4 = .ok (.bipush 6, 2) := by decide +kernel
theorem dXM_consistent_6 : decode cXM_consistent 6 = .ok (.iaload, 1) := by decide +kernel
theorem dXM_consistent_7 : decode cXM_consistent 7 = .ok (.bipush 20, 2) := by decide +kernel
theorem dXM_consistent_9 : decode cXM_consistent 9 = .ok (.iadd, 1) := by decide +kernel
theorem dXM_consistent_10 : decode cXM_consistent 10 = .ok (.aload_n 0, 1) := by decide +kernel
theorem dXM_consistent_11 : decode cXM_consistent 11 = .ok (.getfield 7, 3) := by decide +kernel
theorem dXM_consistent_14 : decode cXM_consistent 14 = .ok (.bipush 7, 2) := by decide +kernel
theorem dXM_consistent_16 : decode cXM_consistent 16 = .ok (.iaload, 1) := by decide +kernel
theorem dXM_consistent_17 : decode cXM_consistent 17 = .ok (.if_icmp .gt 52, 3) := by decide +kernel
theorem dXM_consistent_20 : decode cXM_consistent 20 = .ok (.aload_n 0, 1) := by decide +kernel
theorem dXM_consistent_21 : decode cXM_consistent 21 = .ok (.getfield 7, 3) := by decide +kernel
theorem dXM_consistent_24 : decode cXM_consistent 24 = .ok (.bipush 8, 2) := by decide +kernel
theorem dXM_consistent_26 : decode cXM_consistent 26 = .ok (.iaload, 1) := by decide +kernel
theorem dXM_consistent_27 : decode cXM_consistent 27 = .ok (.bipush 20, 2) := by decide +kernel
theorem dXM_consistent_29 : decode cXM_consistent 29 = .ok (.iadd, 1) := by decide +kernel
theorem dXM_consistent_30 : decode cXM_consistent 30 = .ok (.aload_n 0, 1) := by decide +kernel
theorem dXM_consistent_31 : decode cXM_consistent 31 = .ok (.getfield 7, 3) := by decide +kernel
theorem dXM_consistent_34 : decode cXM_consistent 34 = .ok (.bipush 9, 2) := by decide +kernel
theorem dXM_consistent_36 : decode cXM_consistent 36 = .ok (.iaload, 1) := by decide +kernel
theorem dXM_consistent_37 : decode cXM_consistent 37 = .ok (.if_icmp .gt 32, 3) := by decide +kernel
theorem dXM_consistent_40 : decode cXM_consistent 40 = .ok (.bipush 60, 2) := by decide +kernel
theorem dXM_consistent_42 : decode cXM_consistent 42 = .ok (.aload_n 0, 1) := by decide +kernel
theorem dXM_consistent_43 : decode cXM_consistent 43 = .ok (.getfield 7, 3) := by decide +kernel
theorem dXM_consistent_46 : decode cXM_consistent 46 = .ok (.iconst 1, 1) := by decide +kernel
theorem dXM_consistent_47 : decode cXM_consistent 47 = .ok (.iaload, 1) := by decide +kernel
theorem dXM_consistent_48 : decode cXM_consistent 48 = .ok (.imul, 1) := by decide +kernel
theorem dXM_consistent_49 : decode cXM_consistent 49 = .ok (.aload_n 0, 1) := by decide +kernel
theorem dXM_consistent_50 : decode cXM_consistent 50 = .ok (.getfield 7, 3) := by decide +kernel
theorem dXM_consistent_53 : decode cXM_consistent 53 = .ok (.iconst 2, 1) := by decide +kernel
theorem dXM_consistent_54 : decode cXM_consistent 54 = .ok (.iaload, 1) := by decide +kernel
theorem dXM_consistent_55 : decode cXM_consistent 55 = .ok (.aload_n 0, 1) := by decide +kernel
theorem dXM_consistent_56 : decode cXM_consistent 56 = .ok (.getfield 7, 3) := by decide +kernel
theorem dXM_consistent_59 : decode cXM_consistent 59 = .ok (.iconst 3, 1) := by decide +kernel
theorem dXM_consistent_60 : decode cXM_consistent 60 = .ok (.iaload, 1) := by decide +kernel
theorem dXM_consistent_61 : decode cXM_consistent 61 = .ok (.imul, 1) := by decide +kernel
theorem dXM_consistent_62 : decode cXM_consistent 62 = .ok (.if_icmp .gt 7, 3) := by decide +kernel
theorem dXM_consistent_65 : decode cXM_consistent 65 = .ok (.iconst 1, 1) := by decide +kernel
theorem dXM_consistent_66 : decode cXM_consistent 66 = .ok (.goto 4, 3) := by decide +kernel
theorem dXM_consistent_69 : decode cXM_consistent 69 = .ok (.iconst 0, 1) := by decide +kernel
theorem dXM_consistent_70 : decode cXM_consistent 70 = .ok (.ireturn, 1) := by decide +kernel
theorem dXM_isPlausible_0 : decode cXM_isPlausible 0 = .ok (.iload_n 1, 1) := by decide +kernel
theorem dXM_isPlausible_1 : decode cXM_isPlausible 1 = .ok (.ifCond .ne 9, 3) := by decide +kernel
theorem dXM_isPlausible_4 : decode cXM_isPlausible 4 = .ok (.sipush (-700), 3) := by decide +kernel
theorem dXM_isPlausible_7 : decode cXM_isPlausible 7 = .ok (.goto 15, 3) := by decide +kernel
theorem dXM_isPlausible_10 : decode cXM_isPlausible 10 = .ok (.iload_n 1, 1) := by decide +kernel
theorem dXM_isPlausible_11 : decode cXM_isPlausible 11 = .ok (.iconst 1, 1) := by decide +kernel
theorem dXM_isPlausible_12 : decode cXM_isPlausible 12 = .ok (.if_icmp .ne 9, 3) := by decide +kernel
theorem dXM_isPlausible_15 : decode cXM_isPlausible 15 = .ok (.sipush (-200), 3) := by decide +kernel
theorem dXM_isPlausible_18 : decode cXM_isPlausible 18 = .ok (.goto 4, 3) := by decide +kernel
theorem dXM_isPlausible_21 : decode cXM_isPlausible 21 = .ok (.iconst 0, 1) := by decide +kernel
theorem dXM_isPlausible_22 : decode cXM_isPlausible 22 = .ok (.istore_n 2, 1) := by decide +kernel
theorem dXM_isPlausible_23 : decode cXM_isPlausible 23 = .ok (.iload_n 1, 1) := by decide +kernel
theorem dXM_isPlausible_24 : decode cXM_isPlausible 24 = .ok (.ifCond .ne 9, 3) := by decide +kernel
theorem dXM_isPlausible_27 : decode cXM_isPlausible 27 = .ok (.sipush 500, 3) := by decide +kernel
theorem dXM_isPlausible_30 : decode cXM_isPlausible 30 = .ok (.goto 37, 3) := by decide +kernel
theorem dXM_isPlausible_33 : decode cXM_isPlausible 33 = .ok (.iload_n 1, 1) := by decide +kernel
theorem dXM_isPlausible_34 : decode cXM_isPlausible 34 = .ok (.iconst 1, 1) := by decide +kernel
theorem dXM_isPlausible_35 : decode cXM_isPlausible 35 = .ok (.if_icmp .ne 9, 3) := by decide +kernel
theorem dXM_isPlausible_38 : decode cXM_isPlausible 38 = .ok (.sipush 800, 3) := by decide +kernel
theorem dXM_isPlausible_41 : decode cXM_isPlausible 41 = .ok (.goto 26, 3) := by decide +kernel
theorem dXM_isPlausible_44 : decode cXM_isPlausible 44 = .ok (.iload_n 1, 1) := by decide +kernel
theorem dXM_isPlausible_45 : decode cXM_isPlausible 45 = .ok (.iconst 2, 1) := by decide +kernel
theorem dXM_isPlausible_46 : decode cXM_isPlausible 46 = .ok (.if_icmp .ne 9, 3) := by decide +kernel
theorem dXM_isPlausible_49 : decode cXM_isPlausible 49 = .ok (.sipush 600, 3) := by decide +kernel
theorem dXM_isPlausible_52 : decode cXM_isPlausible 52 = .ok (.goto 15, 3) := by decide +kernel
theorem dXM_isPlausible_55 : decode cXM_isPlausible 55 = .ok (.iload_n 1, 1) := by decide +kernel
theorem dXM_isPlausible_56 : decode cXM_isPlausible 56 = .ok (.iconst 3, 1) := by decide +kernel
theorem dXM_isPlausible_57 : decode cXM_isPlausible 57 = .ok (.if_icmp .ne 9, 3) := by decide +kernel
theorem dXM_isPlausible_60 : decode cXM_isPlausible 60 = .ok (.sipush 3000, 3) := by decide +kernel
theorem dXM_isPlausible_63 : decode cXM_isPlausible 63 = .ok (.goto 4, 3) := by decide +kernel
theorem dXM_isPlausible_66 : decode cXM_isPlausible 66 = .ok (.iconst 1, 1) := by decide +kernel
theorem dXM_isPlausible_67 : decode cXM_isPlausible 67 = .ok (.istore_n 3, 1) := by decide +kernel
theorem dXM_isPlausible_68 : decode cXM_isPlausible 68 = .ok (.aload_n 0, 1) := by decide +kernel
theorem dXM_isPlausible_69 : decode cXM_isPlausible 69 = .ok (.getfield 13, 3) := by decide +kernel
theorem dXM_isPlausible_72 : decode cXM_isPlausible 72 = .ok (.iload_n 1, 1) := by decide +kernel
theorem dXM_isPlausible_73 : decode cXM_isPlausible 73 = .ok (.iaload, 1) := by decide +kernel
theorem dXM_isPlausible_74 : decode cXM_isPlausible 74 = .ok (.iload_n 2, 1) := by decide +kernel
theorem dXM_isPlausible_75 : decode cXM_isPlausible 75 = .ok (.if_icmp .lt 17, 3) := by decide +kernel
theorem dXM_isPlausible_78 : decode cXM_isPlausible 78 = .ok (.aload_n 0, 1) := by decide +kernel
theorem dXM_isPlausible_79 : decode cXM_isPlausible 79 = .ok (.getfield 13, 3) := by decide +kernel
theorem dXM_isPlausible_82 : decode cXM_isPlausible 82 = .ok (.iload_n 1, 1) := by decide +kernel
theorem dXM_isPlausible_83 : decode cXM_isPlausible 83 = .ok (.iaload, 1) := by decide +kernel
theorem dXM_isPlausible_84 : decode cXM_isPlausible 84 = .ok (.iload_n 3, 1) := by decide +kernel
theorem dXM_isPlausible_85 : decode cXM_isPlausible 85 = .ok (.if_icmp .gt 7, 3) := by decide +kernel
theorem dXM_isPlausible_88 : decode cXM_isPlausible 88 = .ok (.iconst 1, 1) := by decide +kernel
theorem dXM_isPlausible_89 : decode cXM_isPlausible 89 = .ok (.goto 4, 3) := by decide +kernel
theorem dXM_isPlausible_92 : decode cXM_isPlausible 92 = .ok (.iconst 0, 1) := by decide +kernel
theorem dXM_isPlausible_93 : decode cXM_isPlausible 93 = .ok (.ireturn, 1) := by decide +kernel
theorem dXM_set_0 : decode cXM_set 0 = .ok (.iload_n 1, 1) := by decide +kernel
theorem dXM_set_1 : decode cXM_set 1 = .ok (.ifCond .lt 32, 3) := by decide +kernel
theorem dXM_set_4 : decode cXM_set 4 = .ok (.iload_n 1, 1) := by decide +kernel
theorem dXM_set_5 : decode cXM_set 5 = .ok (.bipush 9, 2) := by decide +kernel
theorem dXM_set_7 : decode cXM_set 7 = .ok (.if_icmp .gt 26, 3) := by decide +kernel
theorem dXM_set_10 : decode cXM_set 10 = .ok (.aload_n 0, 1) := by decide +kernel
theorem dXM_set_11 : decode cXM_set 11 = .ok (.getfield 26, 3) := by decide +kernel
theorem dXM_set_14 : decode cXM_set 14 = .ok (.ifCond .ne 19, 3) := by decide +kernel
theorem dXM_set_17 : decode cXM_set 17 = .ok (.iload_n 2, 1) := by decide +kernel
theorem dXM_set_18 : decode cXM_set 18 = .ok (.iload_n 1, 1) := by decide +kernel
theorem dXM_set_19 : decode cXM_set 19 = .ok (.invokestatic 29, 3) := by decide +kernel
theorem dXM_set_22 : decode cXM_set 22 = .ok (.if_icmp .lt 11, 3) := by decide +kernel
theorem dXM_set_25 : decode cXM_set 25 = .ok (.iload_n 2, 1) := by decide +kernel
theorem dXM_set_26 : decode cXM_set 26 = .ok (.iload_n 1, 1) := by decide +kernel
theorem dXM_set_27 : decode cXM_set 27 = .ok (.invokestatic 33, 3) := by decide +kernel
theorem dXM_set_30 : decode cXM_set 30 = .ok (.if_icmp .le 5, 3) := by decide +kernel
theorem dXM_set_33 : decode cXM_set 33 = .ok (.iconst 0, 1) := by decide +kernel
theorem dXM_set_34 : decode cXM_set 34 = .ok (.ireturn, 1) := by decide +kernel
theorem dXM_set_35 : decode cXM_set 35 = .ok (.aload_n 0, 1) := by decide +kernel
theorem dXM_set_36 : decode cXM_set 36 = .ok (.getfield 7, 3) := by decide +kernel
theorem dXM_set_39 : decode cXM_set 39 = .ok (.iload_n 1, 1) := by decide +kernel
theorem dXM_set_40 : decode cXM_set 40 = .ok (.iload_n 2, 1) := by decide +kernel
theorem dXM_set_41 : decode cXM_set 41 = .ok (.iastore, 1) := by decide +kernel
theorem dXM_set_42 : decode cXM_set 42 = .ok (.iconst 1, 1) := by decide +kernel
theorem dXM_set_43 : decode cXM_set 43 = .ok (.ireturn, 1) := by decide +kernel
theorem dXM_parameter_0 : decode cXM_parameter 0 = .ok (.iload_n 1, 1) := by decide +kernel
theorem dXM_parameter_1 : decode cXM_parameter 1 = .ok (.ifCond .lt 9, 3) := by decide +kernel
theorem dXM_parameter_4 : decode cXM_parameter 4 = .ok (.iload_n 1, 1) := by decide +kernel
theorem dXM_parameter_5 : decode cXM_parameter 5 = .ok (.bipush 9, 2) := by decide +kernel
theorem dXM_parameter_7 : decode cXM_parameter 7 = .ok (.if_icmp .le 7, 3) := by decide +kernel
theorem dXM_parameter_10 : decode cXM_parameter 10 = .ok (.iconst 0, 1) := by decide +kernel
theorem dXM_parameter_11 : decode cXM_parameter 11 = .ok (.goto 9, 3) := by decide +kernel
theorem dXM_parameter_14 : decode cXM_parameter 14 = .ok (.aload_n 0, 1) := by decide +kernel
theorem dXM_parameter_15 : decode cXM_parameter 15 = .ok (.getfield 7, 3) := by decide +kernel
theorem dXM_parameter_18 : decode cXM_parameter 18 = .ok (.iload_n 1, 1) := by decide +kernel
theorem dXM_parameter_19 : decode cXM_parameter 19 = .ok (.iaload, 1) := by decide +kernel
theorem dXM_parameter_20 : decode cXM_parameter 20 = .ok (.ireturn, 1) := by decide +kernel
theorem dXM_sense_0 : decode cXM_sense 0 = .ok (.iload_n 1, 1) := by decide +kernel
theorem dXM_sense_1 : decode cXM_sense 1 = .ok (.ifCond .lt 8, 3) := by decide +kernel
theorem dXM_sense_4 : decode cXM_sense 4 = .ok (.iload_n 1, 1) := by decide +kernel
theorem dXM_sense_5 : decode cXM_sense 5 = .ok (.iconst 5, 1) := by decide +kernel
theorem dXM_sense_6 : decode cXM_sense 6 = .ok (.if_icmp .le 5, 3) := by decide +kernel
theorem dXM_sense_9 : decode cXM_sense 9 = .ok (.iconst 0, 1) := by decide +kernel
theorem dXM_sense_10 : decode cXM_sense 10 = .ok (.ireturn, 1) := by decide +kernel
theorem dXM_sense_11 : decode cXM_sense 11 = .ok (.aload_n 0, 1) := by decide +kernel
theorem dXM_sense_12 : decode cXM_sense 12 = .ok (.getfield 13, 3) := by decide +kernel
theorem dXM_sense_15 : decode cXM_sense 15 = .ok (.iload_n 1, 1) := by decide +kernel
theorem dXM_sense_16 : decode cXM_sense 16 = .ok (.iload_n 2, 1) := by decide +kernel
theorem dXM_sense_17 : decode cXM_sense 17 = .ok (.iastore, 1) := by decide +kernel
theorem dXM_sense_18 : decode cXM_sense 18 = .ok (.iconst 1, 1) := by decide +kernel
theorem dXM_sense_19 : decode cXM_sense 19 = .ok (.ireturn, 1) := by decide +kernel
theorem dXM_conditioned_0 : decode cXM_conditioned 0 = .ok (.iload_n 1, 1) := by decide +kernel
theorem dXM_conditioned_1 : decode cXM_conditioned 1 = .ok (.ifCond .lt 8, 3) := by decide +kernel
theorem dXM_conditioned_4 : decode cXM_conditioned 4 = .ok (.iload_n 1, 1) := by decide +kernel
theorem dXM_conditioned_5 : decode cXM_conditioned 5 = .ok (.iconst 5, 1) := by decide +kernel
theorem dXM_conditioned_6 : decode cXM_conditioned 6 = .ok (.if_icmp .le 7, 3) := by decide +kernel
theorem dXM_conditioned_9 : decode cXM_conditioned 9 = .ok (.iconst 0, 1) := by decide +kernel
theorem dXM_conditioned_10 : decode cXM_conditioned 10 = .ok (.goto 9, 3) := by decide +kernel
theorem dXM_conditioned_13 : decode cXM_conditioned 13 = .ok (.aload_n 0, 1) := by decide +kernel
theorem dXM_conditioned_14 : decode cXM_conditioned 14 = .ok (.getfield 16, 3) := by decide +kernel
theorem dXM_conditioned_17 : decode cXM_conditioned 17 = .ok (.iload_n 1, 1) := by decide +kernel
theorem dXM_conditioned_18 : decode cXM_conditioned 18 = .ok (.iaload, 1) := by decide +kernel
theorem dXM_conditioned_19 : decode cXM_conditioned 19 = .ok (.ireturn, 1) := by decide +kernel
theorem dXM_faulty_0 : decode cXM_faulty 0 = .ok (.iload_n 1, 1) := by decide +kernel
theorem dXM_faulty_1 : decode cXM_faulty 1 = .ok (.ifCond .lt 27, 3) := by decide +kernel
theorem dXM_faulty_4 : decode cXM_faulty 4 = .ok (.iload_n 1, 1) := by decide +kernel
theorem dXM_faulty_5 : decode cXM_faulty 5 = .ok (.iconst 5, 1) := by decide +kernel
theorem dXM_faulty_6 : decode cXM_faulty 6 = .ok (.if_icmp .gt 22, 3) := by decide +kernel
theorem dXM_faulty_9 : decode cXM_faulty 9 = .ok (.aload_n 0, 1) := by decide +kernel
theorem dXM_faulty_10 : decode cXM_faulty 10 = .ok (.getfield 36, 3) := by decide +kernel
theorem dXM_faulty_13 : decode cXM_faulty 13 = .ok (.aload_n 0, 1) := by decide +kernel
theorem dXM_faulty_14 : decode cXM_faulty 14 = .ok (.getfield 23, 3) := by decide +kernel
theorem dXM_faulty_17 : decode cXM_faulty 17 = .ok (.iload_n 1, 1) := by decide +kernel
theorem dXM_faulty_18 : decode cXM_faulty 18 = .ok (.iaload, 1) := by decide +kernel
theorem dXM_faulty_19 : decode cXM_faulty 19 = .ok (.isub, 1) := by decide +kernel
theorem dXM_faulty_20 : decode cXM_faulty 20 = .ok (.iconst 3, 1) := by decide +kernel
theorem dXM_faulty_21 : decode cXM_faulty 21 = .ok (.if_icmp .lt 7, 3) := by decide +kernel
theorem dXM_faulty_24 : decode cXM_faulty 24 = .ok (.iconst 1, 1) := by decide +kernel
theorem dXM_faulty_25 : decode cXM_faulty 25 = .ok (.goto 4, 3) := by decide +kernel
theorem dXM_faulty_28 : decode cXM_faulty 28 = .ok (.iconst 0, 1) := by decide +kernel
theorem dXM_faulty_29 : decode cXM_faulty 29 = .ok (.ireturn, 1) := by decide +kernel
theorem dXM_enter_0 : decode cXM_enter 0 = .ok (.aload_n 0, 1) := by decide +kernel
theorem dXM_enter_1 : decode cXM_enter 1 = .ok (.iload_n 1, 1) := by decide +kernel
theorem dXM_enter_2 : decode cXM_enter 2 = .ok (.putfield 26, 3) := by decide +kernel
theorem dXM_enter_5 : decode cXM_enter 5 = .ok (.aload_n 0, 1) := by decide +kernel
theorem dXM_enter_6 : decode cXM_enter 6 = .ok (.iconst 0, 1) := by decide +kernel
theorem dXM_enter_7 : decode cXM_enter 7 = .ok (.putfield 39, 3) := by decide +kernel
theorem dXM_enter_10 : decode cXM_enter 10 = .ok (.iload_n 1, 1) := by decide +kernel
theorem dXM_enter_11 : decode cXM_enter 11 = .ok (.iconst 3, 1) := by decide +kernel
theorem dXM_enter_12 : decode cXM_enter 12 = .ok (.if_icmp .ne 18, 3) := by decide +kernel
theorem dXM_enter_15 : decode cXM_enter 15 = .ok (.aload_n 0, 1) := by decide +kernel
theorem dXM_enter_16 : decode cXM_enter 16 = .ok (.iconst 0, 1) := by decide +kernel
theorem dXM_enter_17 : decode cXM_enter 17 = .ok (.putfield 42, 3) := by decide +kernel
theorem dXM_enter_20 : decode cXM_enter 20 = .ok (.aload_n 0, 1) := by decide +kernel
theorem dXM_enter_21 : decode cXM_enter 21 = .ok (.iconst 0, 1) := by decide +kernel
theorem dXM_enter_22 : decode cXM_enter 22 = .ok (.putfield 45, 3) := by decide +kernel
theorem dXM_enter_25 : decode cXM_enter 25 = .ok (.aload_n 0, 1) := by decide +kernel
theorem dXM_enter_26 : decode cXM_enter 26 = .ok (.iconst 0, 1) := by decide +kernel
theorem dXM_enter_27 : decode cXM_enter 27 = .ok (.putfield 48, 3) := by decide +kernel
theorem dXM_enter_30 : decode cXM_enter 30 = .ok (.return_, 1) := by decide +kernel
theorem dXM_next_0 : decode cXM_next 0 = .ok (.aload_n 0, 1) := by decide +kernel
theorem dXM_next_1 : decode cXM_next 1 = .ok (.getfield 26, 3) := by decide +kernel
end
section
theorem dXM_next_4 : decode cXM_next 4 = .ok (.iconst 3, 1) := by decide +kernel
theorem dXM_next_5 : decode cXM_next 5 = .ok (.if_icmp .eq 12, 3) := by decide +kernel
theorem dXM_next_8 : decode cXM_next 8 = .ok (.aload_n 0, 1) := by decide +kernel
theorem dXM_next_9 : decode cXM_next 9 = .ok (.getfield 26, 3) := by decide +kernel
theorem dXM_next_12 : decode cXM_next 12 = .ok (.bipush 6, 2) := by decide +kernel
theorem dXM_next_14 : decode cXM_next 14 = .ok (.if_icmp .ne 7, 3) := by decide +kernel
theorem dXM_next_17 : decode cXM_next 17 = .ok (.iconst 1, 1) := by decide +kernel
theorem dXM_next_18 : decode cXM_next 18 = .ok (.goto 4, 3) := by decide +kernel
theorem dXM_next_21 : decode cXM_next 21 = .ok (.iconst 0, 1) := by decide +kernel
theorem dXM_next_22 : decode cXM_next 22 = .ok (.istore_n 1, 1) := by decide +kernel
theorem dXM_next_23 : decode cXM_next 23 = .ok (.aload_n 0, 1) := by decide +kernel
theorem dXM_next_24 : decode cXM_next 24 = .ok (.getfield 26, 3) := by decide +kernel
theorem dXM_next_27 : decode cXM_next 27 = .ok (.ifCond .ne 37, 3) := by decide +kernel
theorem dXM_next_30 : decode cXM_next 30 = .ok (.aload_n 0, 1) := by decide +kernel
theorem dXM_next_31 : decode cXM_next 31 = .ok (.invokevirtual 51, 3) := by decide +kernel
theorem dXM_next_34 : decode cXM_next 34 = .ok (.ifCond .eq 28, 3) := by decide +kernel
theorem dXM_next_37 : decode cXM_next 37 = .ok (.aload_n 0, 1) := by decide +kernel
theorem dXM_next_38 : decode cXM_next 38 = .ok (.getfield 36, 3) := by decide +kernel
theorem dXM_next_41 : decode cXM_next 41 = .ok (.aload_n 0, 1) := by decide +kernel
theorem dXM_next_42 : decode cXM_next 42 = .ok (.getfield 55, 3) := by decide +kernel
theorem dXM_next_45 : decode cXM_next 45 = .ok (.isub, 1) := by decide +kernel
theorem dXM_next_46 : decode cXM_next 46 = .ok (.bipush 20, 2) := by decide +kernel
theorem dXM_next_48 : decode cXM_next 48 = .ok (.if_icmp .lt 14, 3) := by decide +kernel
theorem dXM_next_51 : decode cXM_next 51 = .ok (.aload_n 0, 1) := by decide +kernel
theorem dXM_next_52 : decode cXM_next 52 = .ok (.getfield 58, 3) := by decide +kernel
theorem dXM_next_55 : decode cXM_next 55 = .ok (.ifCond .ne 7, 3) := by decide +kernel
theorem dXM_next_58 : decode cXM_next 58 = .ok (.iconst 1, 1) := by decide +kernel
theorem dXM_next_59 : decode cXM_next 59 = .ok (.goto 4, 3) := by decide +kernel
theorem dXM_next_62 : decode cXM_next 62 = .ok (.iconst 0, 1) := by decide +kernel
theorem dXM_next_63 : decode cXM_next 63 = .ok (.istore_n 1, 1) := by decide +kernel
theorem dXM_next_64 : decode cXM_next 64 = .ok (.aload_n 0, 1) := by decide +kernel
theorem dXM_next_65 : decode cXM_next 65 = .ok (.getfield 26, 3) := by decide +kernel
theorem dXM_next_68 : decode cXM_next 68 = .ok (.iconst 1, 1) := by decide +kernel
theorem dXM_next_69 : decode cXM_next 69 = .ok (.if_icmp .ne 18, 3) := by decide +kernel
theorem dXM_next_72 : decode cXM_next 72 = .ok (.aload_n 0, 1) := by decide +kernel
theorem dXM_next_73 : decode cXM_next 73 = .ok (.getfield 39, 3) := by decide +kernel
theorem dXM_next_76 : decode cXM_next 76 = .ok (.bipush 100, 2) := by decide +kernel
theorem dXM_next_78 : decode cXM_next 78 = .ok (.if_icmp .lt 7, 3) := by decide +kernel
theorem dXM_next_81 : decode cXM_next 81 = .ok (.iconst 1, 1) := by decide +kernel
theorem dXM_next_82 : decode cXM_next 82 = .ok (.goto 4, 3) := by decide +kernel
theorem dXM_next_85 : decode cXM_next 85 = .ok (.iconst 0, 1) := by decide +kernel
theorem dXM_next_86 : decode cXM_next 86 = .ok (.istore_n 1, 1) := by decide +kernel
theorem dXM_next_87 : decode cXM_next 87 = .ok (.aload_n 0, 1) := by decide +kernel
theorem dXM_next_88 : decode cXM_next 88 = .ok (.getfield 26, 3) := by decide +kernel
theorem dXM_next_91 : decode cXM_next 91 = .ok (.iconst 2, 1) := by decide +kernel
theorem dXM_next_92 : decode cXM_next 92 = .ok (.if_icmp .ne 16, 3) := by decide +kernel
theorem dXM_next_95 : decode cXM_next 95 = .ok (.aload_n 0, 1) := by decide +kernel
theorem dXM_next_96 : decode cXM_next 96 = .ok (.getfield 58, 3) := by decide +kernel
theorem dXM_next_99 : decode cXM_next 99 = .ok (.ifCond .ne 7, 3) := by decide +kernel
theorem dXM_next_102 : decode cXM_next 102 = .ok (.iconst 1, 1) := by decide +kernel
theorem dXM_next_103 : decode cXM_next 103 = .ok (.goto 4, 3) := by decide +kernel
theorem dXM_next_106 : decode cXM_next 106 = .ok (.iconst 0, 1) := by decide +kernel
theorem dXM_next_107 : decode cXM_next 107 = .ok (.istore_n 1, 1) := by decide +kernel
theorem dXM_next_108 : decode cXM_next 108 = .ok (.aload_n 0, 1) := by decide +kernel
theorem dXM_next_109 : decode cXM_next 109 = .ok (.getfield 26, 3) := by decide +kernel
theorem dXM_next_112 : decode cXM_next 112 = .ok (.iconst 4, 1) := by decide +kernel
theorem dXM_next_113 : decode cXM_next 113 = .ok (.if_icmp .ne 18, 3) := by decide +kernel
theorem dXM_next_116 : decode cXM_next 116 = .ok (.aload_n 0, 1) := by decide +kernel
theorem dXM_next_117 : decode cXM_next 117 = .ok (.getfield 39, 3) := by decide +kernel
theorem dXM_next_120 : decode cXM_next 120 = .ok (.bipush 50, 2) := by decide +kernel
theorem dXM_next_122 : decode cXM_next 122 = .ok (.if_icmp .lt 7, 3) := by decide +kernel
theorem dXM_next_125 : decode cXM_next 125 = .ok (.iconst 1, 1) := by decide +kernel
theorem dXM_next_126 : decode cXM_next 126 = .ok (.goto 4, 3) := by decide +kernel
theorem dXM_next_129 : decode cXM_next 129 = .ok (.iconst 0, 1) := by decide +kernel
theorem dXM_next_130 : decode cXM_next 130 = .ok (.istore_n 1, 1) := by decide +kernel
theorem dXM_next_131 : decode cXM_next 131 = .ok (.aload_n 0, 1) := by decide +kernel
theorem dXM_next_132 : decode cXM_next 132 = .ok (.getfield 26, 3) := by decide +kernel
theorem dXM_next_135 : decode cXM_next 135 = .ok (.iconst 5, 1) := by decide +kernel
theorem dXM_next_136 : decode cXM_next 136 = .ok (.if_icmp .ne 18, 3) := by decide +kernel
theorem dXM_next_139 : decode cXM_next 139 = .ok (.aload_n 0, 1) := by decide +kernel
theorem dXM_next_140 : decode cXM_next 140 = .ok (.getfield 39, 3) := by decide +kernel
theorem dXM_next_143 : decode cXM_next 143 = .ok (.bipush 30, 2) := by decide +kernel
theorem dXM_next_145 : decode cXM_next 145 = .ok (.if_icmp .lt 7, 3) := by decide +kernel
theorem dXM_next_148 : decode cXM_next 148 = .ok (.iconst 1, 1) := by decide +kernel
theorem dXM_next_149 : decode cXM_next 149 = .ok (.goto 4, 3) := by decide +kernel
theorem dXM_next_152 : decode cXM_next 152 = .ok (.iconst 0, 1) := by decide +kernel
theorem dXM_next_153 : decode cXM_next 153 = .ok (.istore_n 1, 1) := by decide +kernel
theorem dXM_next_154 : decode cXM_next 154 = .ok (.iload_n 1, 1) := by decide +kernel
theorem dXM_next_155 : decode cXM_next 155 = .ok (.ifCond .ne 5, 3) := by decide +kernel
theorem dXM_next_158 : decode cXM_next 158 = .ok (.iconst (-1), 1) := by decide +kernel
theorem dXM_next_159 : decode cXM_next 159 = .ok (.ireturn, 1) := by decide +kernel
theorem dXM_next_160 : decode cXM_next 160 = .ok (.aload_n 0, 1) := by decide +kernel
theorem dXM_next_161 : decode cXM_next 161 = .ok (.aload_n 0, 1) := by decide +kernel
theorem dXM_next_162 : decode cXM_next 162 = .ok (.getfield 26, 3) := by decide +kernel
theorem dXM_next_165 : decode cXM_next 165 = .ok (.bipush 6, 2) := by decide +kernel
theorem dXM_next_167 : decode cXM_next 167 = .ok (.if_icmp .ne 7, 3) := by decide +kernel
theorem dXM_next_170 : decode cXM_next 170 = .ok (.iconst 0, 1) := by decide +kernel
theorem dXM_next_171 : decode cXM_next 171 = .ok (.goto 9, 3) := by decide +kernel
theorem dXM_next_174 : decode cXM_next 174 = .ok (.aload_n 0, 1) := by decide +kernel
theorem dXM_next_175 : decode cXM_next 175 = .ok (.getfield 26, 3) := by decide +kernel
theorem dXM_next_178 : decode cXM_next 178 = .ok (.iconst 1, 1) := by decide +kernel
theorem dXM_next_179 : decode cXM_next 179 = .ok (.iadd, 1) := by decide +kernel
theorem dXM_next_180 : decode cXM_next 180 = .ok (.invokevirtual 61, 3) := by decide +kernel
theorem dXM_next_183 : decode cXM_next 183 = .ok (.aload_n 0, 1) := by decide +kernel
theorem dXM_next_184 : decode cXM_next 184 = .ok (.getfield 26, 3) := by decide +kernel
theorem dXM_next_187 : decode cXM_next 187 = .ok (.ireturn, 1) := by decide +kernel
theorem dXM_acknowledge_0 : decode cXM_acknowledge 0 = .ok (.aload_n 0, 1) := by decide +kernel
theorem dXM_acknowledge_1 : decode cXM_acknowledge 1 = .ok (.aload_n 0, 1) := by decide +kernel
theorem dXM_acknowledge_2 : decode cXM_acknowledge 2 = .ok (.getfield 58, 3) := by decide +kernel
theorem dXM_acknowledge_5 : decode cXM_acknowledge 5 = .ok (.aload_n 0, 1) := by decide +kernel
theorem dXM_acknowledge_6 : decode cXM_acknowledge 6 = .ok (.getfield 65, 3) := by decide +kernel
theorem dXM_acknowledge_9 : decode cXM_acknowledge 9 = .ok (.iand, 1) := by decide +kernel
theorem dXM_acknowledge_10 : decode cXM_acknowledge 10 = .ok (.putfield 58, 3) := by decide +kernel
theorem dXM_acknowledge_13 : decode cXM_acknowledge 13 = .ok (.aload_n 0, 1) := by decide +kernel
theorem dXM_acknowledge_14 : decode cXM_acknowledge 14 = .ok (.getfield 58, 3) := by decide +kernel
theorem dXM_acknowledge_17 : decode cXM_acknowledge 17 = .ok (.ireturn, 1) := by decide +kernel
theorem dXM_substitute_0 : decode cXM_substitute 0 = .ok (.iload_n 1, 1) := by decide +kernel
theorem dXM_substitute_1 : decode cXM_substitute 1 = .ok (.iconst (-1), 1) := by decide +kernel
theorem dXM_substitute_2 : decode cXM_substitute 2 = .ok (.if_icmp .lt 9, 3) := by decide +kernel
theorem dXM_substitute_5 : decode cXM_substitute 5 = .ok (.iload_n 1, 1) := by decide +kernel
theorem dXM_substitute_6 : decode cXM_substitute 6 = .ok (.bipush 15, 2) := by decide +kernel
theorem dXM_substitute_8 : decode cXM_substitute 8 = .ok (.if_icmp .le 5, 3) := by decide +kernel
theorem dXM_substitute_11 : decode cXM_substitute 11 = .ok (.iconst 0, 1) := by decide +kernel
theorem dXM_substitute_12 : decode cXM_substitute 12 = .ok (.ireturn, 1) := by decide +kernel
theorem dXM_substitute_13 : decode cXM_substitute 13 = .ok (.aload_n 0, 1) := by decide +kernel
theorem dXM_substitute_14 : decode cXM_substitute 14 = .ok (.iload_n 1, 1) := by decide +kernel
theorem dXM_substitute_15 : decode cXM_substitute 15 = .ok (.putfield 19, 3) := by decide +kernel
theorem dXM_substitute_18 : decode cXM_substitute 18 = .ok (.iconst 1, 1) := by decide +kernel
theorem dXM_substitute_19 : decode cXM_substitute 19 = .ok (.ireturn, 1) := by decide +kernel
theorem dXM_onPatient_0 : decode cXM_onPatient 0 = .ok (.aload_n 0, 1) := by decide +kernel
theorem dXM_onPatient_1 : decode cXM_onPatient 1 = .ok (.getfield 26, 3) := by decide +kernel
theorem dXM_onPatient_4 : decode cXM_onPatient 4 = .ok (.iconst 2, 1) := by decide +kernel
theorem dXM_onPatient_5 : decode cXM_onPatient 5 = .ok (.if_icmp .lt 15, 3) := by decide +kernel
theorem dXM_onPatient_8 : decode cXM_onPatient 8 = .ok (.aload_n 0, 1) := by decide +kernel
theorem dXM_onPatient_9 : decode cXM_onPatient 9 = .ok (.getfield 26, 3) := by decide +kernel
theorem dXM_onPatient_12 : decode cXM_onPatient 12 = .ok (.iconst 4, 1) := by decide +kernel
theorem dXM_onPatient_13 : decode cXM_onPatient 13 = .ok (.if_icmp .gt 7, 3) := by decide +kernel
theorem dXM_onPatient_16 : decode cXM_onPatient 16 = .ok (.iconst 1, 1) := by decide +kernel
theorem dXM_onPatient_17 : decode cXM_onPatient 17 = .ok (.goto 4, 3) := by decide +kernel
theorem dXM_onPatient_20 : decode cXM_onPatient 20 = .ok (.iconst 0, 1) := by decide +kernel
theorem dXM_onPatient_21 : decode cXM_onPatient 21 = .ok (.ireturn, 1) := by decide +kernel
theorem dXM_off_0 : decode cXM_off 0 = .ok (.aload_n 0, 1) := by decide +kernel
theorem dXM_off_1 : decode cXM_off 1 = .ok (.getfield 16, 3) := by decide +kernel
theorem dXM_off_4 : decode cXM_off 4 = .ok (.iconst 2, 1) := by decide +kernel
theorem dXM_off_5 : decode cXM_off 5 = .ok (.iaload, 1) := by decide +kernel
theorem dXM_off_6 : decode cXM_off 6 = .ok (.aload_n 0, 1) := by decide +kernel
theorem dXM_off_7 : decode cXM_off 7 = .ok (.getfield 7, 3) := by decide +kernel
theorem dXM_off_10 : decode cXM_off 10 = .ok (.iconst 4, 1) := by decide +kernel
theorem dXM_off_11 : decode cXM_off 11 = .ok (.iaload, 1) := by decide +kernel
theorem dXM_off_12 : decode cXM_off 12 = .ok (.isub, 1) := by decide +kernel
theorem dXM_off_13 : decode cXM_off 13 = .ok (.istore_n 1, 1) := by decide +kernel
theorem dXM_off_14 : decode cXM_off 14 = .ok (.aload_n 0, 1) := by decide +kernel
theorem dXM_off_15 : decode cXM_off 15 = .ok (.getfield 16, 3) := by decide +kernel
theorem dXM_off_18 : decode cXM_off 18 = .ok (.iconst 3, 1) := by decide +kernel
theorem dXM_off_19 : decode cXM_off 19 = .ok (.iaload, 1) := by decide +kernel
theorem dXM_off_20 : decode cXM_off 20 = .ok (.aload_n 0, 1) := by decide +kernel
theorem dXM_off_21 : decode cXM_off 21 = .ok (.getfield 7, 3) := by decide +kernel
theorem dXM_off_24 : decode cXM_off 24 = .ok (.iconst 5, 1) := by decide +kernel
theorem dXM_off_25 : decode cXM_off 25 = .ok (.iaload, 1) := by decide +kernel
theorem dXM_off_26 : decode cXM_off 26 = .ok (.isub, 1) := by decide +kernel
theorem dXM_off_27 : decode cXM_off 27 = .ok (.istore_n 2, 1) := by decide +kernel
theorem dXM_off_28 : decode cXM_off 28 = .ok (.iload_n 1, 1) := by decide +kernel
theorem dXM_off_29 : decode cXM_off 29 = .ok (.iconst 5, 1) := by decide +kernel
theorem dXM_off_30 : decode cXM_off 30 = .ok (.if_icmp .gt 21, 3) := by decide +kernel
theorem dXM_off_33 : decode cXM_off 33 = .ok (.iload_n 1, 1) := by decide +kernel
theorem dXM_off_34 : decode cXM_off 34 = .ok (.bipush (-5), 2) := by decide +kernel
theorem dXM_off_36 : decode cXM_off 36 = .ok (.if_icmp .lt 15, 3) := by decide +kernel
theorem dXM_off_39 : decode cXM_off 39 = .ok (.iload_n 2, 1) := by decide +kernel
theorem dXM_off_40 : decode cXM_off 40 = .ok (.bipush 40, 2) := by decide +kernel
theorem dXM_off_42 : decode cXM_off 42 = .ok (.if_icmp .gt 9, 3) := by decide +kernel
theorem dXM_off_45 : decode cXM_off 45 = .ok (.iload_n 2, 1) := by decide +kernel
theorem dXM_off_46 : decode cXM_off 46 = .ok (.bipush (-40), 2) := by decide +kernel
theorem dXM_off_48 : decode cXM_off 48 = .ok (.if_icmp .ge 7, 3) := by decide +kernel
theorem dXM_off_51 : decode cXM_off 51 = .ok (.iconst 1, 1) := by decide +kernel
theorem dXM_off_52 : decode cXM_off 52 = .ok (.goto 4, 3) := by decide +kernel
theorem dXM_off_55 : decode cXM_off 55 = .ok (.iconst 0, 1) := by decide +kernel
theorem dXM_off_56 : decode cXM_off 56 = .ok (.ireturn, 1) := by decide +kernel
theorem dXM_outside_0 : decode cXM_outside 0 = .ok (.iload_n 1, 1) := by decide +kernel
theorem dXM_outside_1 : decode cXM_outside 1 = .ok (.iload_n 2, 1) := by decide +kernel
theorem dXM_outside_2 : decode cXM_outside 2 = .ok (.if_icmp .lt 8, 3) := by decide +kernel
theorem dXM_outside_5 : decode cXM_outside 5 = .ok (.iload_n 1, 1) := by decide +kernel
theorem dXM_outside_6 : decode cXM_outside 6 = .ok (.iload_n 3, 1) := by decide +kernel
theorem dXM_outside_7 : decode cXM_outside 7 = .ok (.if_icmp .le 7, 3) := by decide +kernel
theorem dXM_outside_10 : decode cXM_outside 10 = .ok (.iconst 1, 1) := by decide +kernel
theorem dXM_outside_11 : decode cXM_outside 11 = .ok (.goto 4, 3) := by decide +kernel
theorem dXM_outside_14 : decode cXM_outside 14 = .ok (.iconst 0, 1) := by decide +kernel
theorem dXM_outside_15 : decode cXM_outside 15 = .ok (.ireturn, 1) := by decide +kernel
theorem dXM_condition_0 : decode cXM_condition 0 = .ok (.iconst 0, 1) := by decide +kernel
theorem dXM_condition_1 : decode cXM_condition 1 = .ok (.istore_n 1, 1) := by decide +kernel
theorem dXM_condition_2 : decode cXM_condition 2 = .ok (.iload_n 1, 1) := by decide +kernel
theorem dXM_condition_3 : decode cXM_condition 3 = .ok (.bipush 6, 2) := by decide +kernel
theorem dXM_condition_5 : decode cXM_condition 5 = .ok (.if_icmp .ge 39, 3) := by decide +kernel
theorem dXM_condition_8 : decode cXM_condition 8 = .ok (.aload_n 0, 1) := by decide +kernel
theorem dXM_condition_9 : decode cXM_condition 9 = .ok (.iload_n 1, 1) := by decide +kernel
theorem dXM_condition_10 : decode cXM_condition 10 = .ok (.invokevirtual 68, 3) := by decide +kernel
theorem dXM_condition_13 : decode cXM_condition 13 = .ok (.ifCond .eq 25, 3) := by decide +kernel
theorem dXM_condition_16 : decode cXM_condition 16 = .ok (.aload_n 0, 1) := by decide +kernel
theorem dXM_condition_17 : decode cXM_condition 17 = .ok (.getfield 16, 3) := by decide +kernel
theorem dXM_condition_20 : decode cXM_condition 20 = .ok (.iload_n 1, 1) := by decide +kernel
theorem dXM_condition_21 : decode cXM_condition 21 = .ok (.aload_n 0, 1) := by decide +kernel
theorem dXM_condition_22 : decode cXM_condition 22 = .ok (.getfield 13, 3) := by decide +kernel
theorem dXM_condition_25 : decode cXM_condition 25 = .ok (.iload_n 1, 1) := by decide +kernel
theorem dXM_condition_26 : decode cXM_condition 26 = .ok (.iaload, 1) := by decide +kernel
theorem dXM_condition_27 : decode cXM_condition 27 = .ok (.iastore, 1) := by decide +kernel
theorem dXM_condition_28 : decode cXM_condition 28 = .ok (.aload_n 0, 1) := by decide +kernel
theorem dXM_condition_29 : decode cXM_condition 29 = .ok (.getfield 23, 3) := by decide +kernel
theorem dXM_condition_32 : decode cXM_condition 32 = .ok (.iload_n 1, 1) := by decide +kernel
theorem dXM_condition_33 : decode cXM_condition 33 = .ok (.aload_n 0, 1) := by decide +kernel
theorem dXM_condition_34 : decode cXM_condition 34 = .ok (.getfield 36, 3) := by decide +kernel
theorem dXM_condition_37 : decode cXM_condition 37 = .ok (.iastore, 1) := by decide +kernel
theorem dXM_condition_38 : decode cXM_condition 38 = .ok (.iinc 1 1, 3) := by decide +kernel
theorem dXM_condition_41 : decode cXM_condition 41 = .ok (.goto (-39), 3) := by decide +kernel
theorem dXM_condition_44 : decode cXM_condition 44 = .ok (.aload_n 0, 1) := by decide +kernel
theorem dXM_condition_45 : decode cXM_condition 45 = .ok (.invokevirtual 72, 3) := by decide +kernel
theorem dXM_condition_48 : decode cXM_condition 48 = .ok (.ifCond .eq 30, 3) := by decide +kernel
theorem dXM_condition_51 : decode cXM_condition 51 = .ok (.aload_n 0, 1) := by decide +kernel
theorem dXM_condition_52 : decode cXM_condition 52 = .ok (.aload_n 0, 1) := by decide +kernel
theorem dXM_condition_53 : decode cXM_condition 53 = .ok (.getfield 16, 3) := by decide +kernel
theorem dXM_condition_56 : decode cXM_condition 56 = .ok (.iconst 0, 1) := by decide +kernel
theorem dXM_condition_57 : decode cXM_condition 57 = .ok (.iaload, 1) := by decide +kernel
theorem dXM_condition_58 : decode cXM_condition 58 = .ok (.aload_n 0, 1) := by decide +kernel
theorem dXM_condition_59 : decode cXM_condition 59 = .ok (.getfield 7, 3) := by decide +kernel
theorem dXM_condition_62 : decode cXM_condition 62 = .ok (.bipush 6, 2) := by decide +kernel
theorem dXM_condition_64 : decode cXM_condition 64 = .ok (.iaload, 1) := by decide +kernel
theorem dXM_condition_65 : decode cXM_condition 65 = .ok (.aload_n 0, 1) := by decide +kernel
theorem dXM_condition_66 : decode cXM_condition 66 = .ok (.getfield 7, 3) := by decide +kernel
theorem dXM_condition_69 : decode cXM_condition 69 = .ok (.bipush 7, 2) := by decide +kernel
theorem dXM_condition_71 : decode cXM_condition 71 = .ok (.iaload, 1) := by decide +kernel
theorem dXM_condition_72 : decode cXM_condition 72 = .ok (.invokevirtual 75, 3) := by decide +kernel
theorem dXM_condition_75 : decode cXM_condition 75 = .ok (.ifCond .ne 11, 3) := by decide +kernel
theorem dXM_condition_78 : decode cXM_condition 78 = .ok (.aload_n 0, 1) := by decide +kernel
theorem dXM_condition_79 : decode cXM_condition 79 = .ok (.aload_n 0, 1) := by decide +kernel
theorem dXM_condition_80 : decode cXM_condition 80 = .ok (.getfield 36, 3) := by decide +kernel
theorem dXM_condition_83 : decode cXM_condition 83 = .ok (.putfield 79, 3) := by decide +kernel
theorem dXM_condition_86 : decode cXM_condition 86 = .ok (.aload_n 0, 1) := by decide +kernel
theorem dXM_condition_87 : decode cXM_condition 87 = .ok (.invokevirtual 72, 3) := by decide +kernel
theorem dXM_condition_90 : decode cXM_condition 90 = .ok (.ifCond .eq 30, 3) := by decide +kernel
theorem dXM_condition_93 : decode cXM_condition 93 = .ok (.aload_n 0, 1) := by decide +kernel
theorem dXM_condition_94 : decode cXM_condition 94 = .ok (.aload_n 0, 1) := by decide +kernel
theorem dXM_condition_95 : decode cXM_condition 95 = .ok (.getfield 16, 3) := by decide +kernel
theorem dXM_condition_98 : decode cXM_condition 98 = .ok (.iconst 1, 1) := by decide +kernel
theorem dXM_condition_99 : decode cXM_condition 99 = .ok (.iaload, 1) := by decide +kernel
theorem dXM_condition_100 : decode cXM_condition 100 = .ok (.aload_n 0, 1) := by decide +kernel
theorem dXM_condition_101 : decode cXM_condition 101 = .ok (.getfield 7, 3) := by decide +kernel
theorem dXM_condition_104 : decode cXM_condition 104 = .ok (.bipush 8, 2) := by decide +kernel
theorem dXM_condition_106 : decode cXM_condition 106 = .ok (.iaload, 1) := by decide +kernel
theorem dXM_condition_107 : decode cXM_condition 107 = .ok (.aload_n 0, 1) := by decide +kernel
theorem dXM_condition_108 : decode cXM_condition 108 = .ok (.getfield 7, 3) := by decide +kernel
theorem dXM_condition_111 : decode cXM_condition 111 = .ok (.bipush 9, 2) := by decide +kernel
theorem dXM_condition_113 : decode cXM_condition 113 = .ok (.iaload, 1) := by decide +kernel
theorem dXM_condition_114 : decode cXM_condition 114 = .ok (.invokevirtual 75, 3) := by decide +kernel
theorem dXM_condition_117 : decode cXM_condition 117 = .ok (.ifCond .ne 11, 3) := by decide +kernel
theorem dXM_condition_120 : decode cXM_condition 120 = .ok (.aload_n 0, 1) := by decide +kernel
theorem dXM_condition_121 : decode cXM_condition 121 = .ok (.aload_n 0, 1) := by decide +kernel
theorem dXM_condition_122 : decode cXM_condition 122 = .ok (.getfield 36, 3) := by decide +kernel
theorem dXM_condition_125 : decode cXM_condition 125 = .ok (.putfield 82, 3) := by decide +kernel
theorem dXM_condition_128 : decode cXM_condition 128 = .ok (.aload_n 0, 1) := by decide +kernel
theorem dXM_condition_129 : decode cXM_condition 129 = .ok (.invokevirtual 85, 3) := by decide +kernel
theorem dXM_condition_132 : decode cXM_condition 132 = .ok (.ifCond .eq 14, 3) := by decide +kernel
theorem dXM_condition_135 : decode cXM_condition 135 = .ok (.aload_n 0, 1) := by decide +kernel
theorem dXM_condition_136 : decode cXM_condition 136 = .ok (.aload_n 0, 1) := by decide +kernel
theorem dXM_condition_137 : decode cXM_condition 137 = .ok (.getfield 36, 3) := by decide +kernel
theorem dXM_condition_140 : decode cXM_condition 140 = .ok (.putfield 55, 3) := by decide +kernel
theorem dXM_condition_143 : decode cXM_condition 143 = .ok (.goto 11, 3) := by decide +kernel
theorem dXM_condition_146 : decode cXM_condition 146 = .ok (.aload_n 0, 1) := by decide +kernel
theorem dXM_condition_147 : decode cXM_condition 147 = .ok (.aload_n 0, 1) := by decide +kernel
theorem dXM_condition_148 : decode cXM_condition 148 = .ok (.getfield 36, 3) := by decide +kernel
theorem dXM_condition_151 : decode cXM_condition 151 = .ok (.putfield 88, 3) := by decide +kernel
theorem dXM_condition_154 : decode cXM_condition 154 = .ok (.return_, 1) := by decide +kernel
theorem dXM_conditionsNow_0 : decode cXM_conditionsNow 0 = .ok (.aload_n 0, 1) := by decide +kernel
theorem dXM_conditionsNow_1 : decode cXM_conditionsNow 1 = .ok (.getfield 36, 3) := by decide +kernel
theorem dXM_conditionsNow_4 : decode cXM_conditionsNow 4 = .ok (.aload_n 0, 1) := by decide +kernel
theorem dXM_conditionsNow_5 : decode cXM_conditionsNow 5 = .ok (.getfield 79, 3) := by decide +kernel
theorem dXM_conditionsNow_8 : decode cXM_conditionsNow 8 = .ok (.isub, 1) := by decide +kernel
theorem dXM_conditionsNow_9 : decode cXM_conditionsNow 9 = .ok (.bipush 30, 2) := by decide +kernel
theorem dXM_conditionsNow_11 : decode cXM_conditionsNow 11 = .ok (.if_icmp .lt 7, 3) := by decide +kernel
theorem dXM_conditionsNow_14 : decode cXM_conditionsNow 14 = .ok (.iconst 1, 1) := by decide +kernel
theorem dXM_conditionsNow_15 : decode cXM_conditionsNow 15 = .ok (.goto 4, 3) := by decide +kernel
theorem dXM_conditionsNow_18 : decode cXM_conditionsNow 18 = .ok (.iconst 0, 1) := by decide +kernel
theorem dXM_conditionsNow_19 : decode cXM_conditionsNow 19 = .ok (.istore_n 1, 1) := by decide +kernel
theorem dXM_conditionsNow_20 : decode cXM_conditionsNow 20 = .ok (.aload_n 0, 1) := by decide +kernel
theorem dXM_conditionsNow_21 : decode cXM_conditionsNow 21 = .ok (.getfield 36, 3) := by decide +kernel
theorem dXM_conditionsNow_24 : decode cXM_conditionsNow 24 = .ok (.aload_n 0, 1) := by decide +kernel
theorem dXM_conditionsNow_25 : decode cXM_conditionsNow 25 = .ok (.getfield 82, 3) := by decide +kernel
theorem dXM_conditionsNow_28 : decode cXM_conditionsNow 28 = .ok (.isub, 1) := by decide +kernel
theorem dXM_conditionsNow_29 : decode cXM_conditionsNow 29 = .ok (.bipush 30, 2) := by decide +kernel
theorem dXM_conditionsNow_31 : decode cXM_conditionsNow 31 = .ok (.if_icmp .lt 9, 3) := by decide +kernel
theorem dXM_conditionsNow_34 : decode cXM_conditionsNow 34 = .ok (.iload_n 1, 1) := by decide +kernel
theorem dXM_conditionsNow_35 : decode cXM_conditionsNow 35 = .ok (.iconst 2, 1) := by decide +kernel
theorem dXM_conditionsNow_36 : decode cXM_conditionsNow 36 = .ok (.iadd, 1) := by decide +kernel
theorem dXM_conditionsNow_37 : decode cXM_conditionsNow 37 = .ok (.goto 4, 3) := by decide +kernel
theorem dXM_conditionsNow_40 : decode cXM_conditionsNow 40 = .ok (.iload_n 1, 1) := by decide +kernel
theorem dXM_conditionsNow_41 : decode cXM_conditionsNow 41 = .ok (.istore_n 1, 1) := by decide +kernel
theorem dXM_conditionsNow_42 : decode cXM_conditionsNow 42 = .ok (.aload_n 0, 1) := by decide +kernel
theorem dXM_conditionsNow_43 : decode cXM_conditionsNow 43 = .ok (.invokevirtual 72, 3) := by decide +kernel
theorem dXM_conditionsNow_46 : decode cXM_conditionsNow 46 = .ok (.ifCond .eq 19, 3) := by decide +kernel
theorem dXM_conditionsNow_49 : decode cXM_conditionsNow 49 = .ok (.aload_n 0, 1) := by decide +kernel
theorem dXM_conditionsNow_50 : decode cXM_conditionsNow 50 = .ok (.getfield 16, 3) := by decide +kernel
theorem dXM_conditionsNow_53 : decode cXM_conditionsNow 53 = .ok (.iconst 4, 1) := by decide +kernel
theorem dXM_conditionsNow_54 : decode cXM_conditionsNow 54 = .ok (.iaload, 1) := by decide +kernel
theorem dXM_conditionsNow_55 : decode cXM_conditionsNow 55 = .ok (.iconst 1, 1) := by decide +kernel
theorem dXM_conditionsNow_56 : decode cXM_conditionsNow 56 = .ok (.if_icmp .ne 9, 3) := by decide +kernel
theorem dXM_conditionsNow_59 : decode cXM_conditionsNow 59 = .ok (.iload_n 1, 1) := by decide +kernel
theorem dXM_conditionsNow_60 : decode cXM_conditionsNow 60 = .ok (.iconst 4, 1) := by decide +kernel
theorem dXM_conditionsNow_61 : decode cXM_conditionsNow 61 = .ok (.iadd, 1) := by decide +kernel
theorem dXM_conditionsNow_62 : decode cXM_conditionsNow 62 = .ok (.goto 4, 3) := by decide +kernel
theorem dXM_conditionsNow_65 : decode cXM_conditionsNow 65 = .ok (.iload_n 1, 1) := by decide +kernel
theorem dXM_conditionsNow_66 : decode cXM_conditionsNow 66 = .ok (.istore_n 1, 1) := by decide +kernel
theorem dXM_conditionsNow_67 : decode cXM_conditionsNow 67 = .ok (.aload_n 0, 1) := by decide +kernel
theorem dXM_conditionsNow_68 : decode cXM_conditionsNow 68 = .ok (.getfield 26, 3) := by decide +kernel
theorem dXM_conditionsNow_71 : decode cXM_conditionsNow 71 = .ok (.iconst 3, 1) := by decide +kernel
theorem dXM_conditionsNow_72 : decode cXM_conditionsNow 72 = .ok (.if_icmp .ne 20, 3) := by decide +kernel
theorem dXM_conditionsNow_75 : decode cXM_conditionsNow 75 = .ok (.aload_n 0, 1) := by decide +kernel
theorem dXM_conditionsNow_76 : decode cXM_conditionsNow 76 = .ok (.getfield 16, 3) := by decide +kernel
theorem dXM_conditionsNow_79 : decode cXM_conditionsNow 79 = .ok (.iconst 5, 1) := by decide +kernel
theorem dXM_conditionsNow_80 : decode cXM_conditionsNow 80 = .ok (.iaload, 1) := by decide +kernel
theorem dXM_conditionsNow_81 : decode cXM_conditionsNow 81 = .ok (.iconst 1, 1) := by decide +kernel
theorem dXM_conditionsNow_82 : decode cXM_conditionsNow 82 = .ok (.if_icmp .ne 10, 3) := by decide +kernel
theorem dXM_conditionsNow_85 : decode cXM_conditionsNow 85 = .ok (.iload_n 1, 1) := by decide +kernel
theorem dXM_conditionsNow_86 : decode cXM_conditionsNow 86 = .ok (.bipush 8, 2) := by decide +kernel
theorem dXM_conditionsNow_88 : decode cXM_conditionsNow 88 = .ok (.iadd, 1) := by decide +kernel
theorem dXM_conditionsNow_89 : decode cXM_conditionsNow 89 = .ok (.goto 4, 3) := by decide +kernel
theorem dXM_conditionsNow_92 : decode cXM_conditionsNow 92 = .ok (.iload_n 1, 1) := by decide +kernel
theorem dXM_conditionsNow_93 : decode cXM_conditionsNow 93 = .ok (.istore_n 1, 1) := by decide +kernel
theorem dXM_conditionsNow_94 : decode cXM_conditionsNow 94 = .ok (.aload_n 0, 1) := by decide +kernel
theorem dXM_conditionsNow_95 : decode cXM_conditionsNow 95 = .ok (.getfield 36, 3) := by decide +kernel
theorem dXM_conditionsNow_98 : decode cXM_conditionsNow 98 = .ok (.aload_n 0, 1) := by decide +kernel
theorem dXM_conditionsNow_99 : decode cXM_conditionsNow 99 = .ok (.getfield 88, 3) := by decide +kernel
theorem dXM_conditionsNow_102 : decode cXM_conditionsNow 102 = .ok (.isub, 1) := by decide +kernel
theorem dXM_conditionsNow_103 : decode cXM_conditionsNow 103 = .ok (.sipush 600, 3) := by decide +kernel
theorem dXM_conditionsNow_106 : decode cXM_conditionsNow 106 = .ok (.if_icmp .lt 10, 3) := by decide +kernel
theorem dXM_conditionsNow_109 : decode cXM_conditionsNow 109 = .ok (.iload_n 1, 1) := by decide +kernel
theorem dXM_conditionsNow_110 : decode cXM_conditionsNow 110 = .ok (.bipush 16, 2) := by decide +kernel
theorem dXM_conditionsNow_112 : decode cXM_conditionsNow 112 = .ok (.iadd, 1) := by decide +kernel
theorem dXM_conditionsNow_113 : decode cXM_conditionsNow 113 = .ok (.goto 4, 3) := by decide +kernel
theorem dXM_conditionsNow_116 : decode cXM_conditionsNow 116 = .ok (.iload_n 1, 1) := by decide +kernel
theorem dXM_conditionsNow_117 : decode cXM_conditionsNow 117 = .ok (.istore_n 1, 1) := by decide +kernel
theorem dXM_conditionsNow_118 : decode cXM_conditionsNow 118 = .ok (.iconst 0, 1) := by decide +kernel
theorem dXM_conditionsNow_119 : decode cXM_conditionsNow 119 = .ok (.istore_n 2, 1) := by decide +kernel
theorem dXM_conditionsNow_120 : decode cXM_conditionsNow 120 = .ok (.iconst 0, 1) := by decide +kernel
theorem dXM_conditionsNow_121 : decode cXM_conditionsNow 121 = .ok (.istore_n 3, 1) := by decide +kernel
theorem dXM_conditionsNow_122 : decode cXM_conditionsNow 122 = .ok (.iload_n 3, 1) := by decide +kernel
theorem dXM_conditionsNow_123 : decode cXM_conditionsNow 123 = .ok (.bipush 6, 2) := by decide +kernel
theorem dXM_conditionsNow_125 : decode cXM_conditionsNow 125 = .ok (.if_icmp .ge 27, 3) := by decide +kernel
theorem dXM_conditionsNow_128 : decode cXM_conditionsNow 128 = .ok (.iload_n 2, 1) := by decide +kernel
theorem dXM_conditionsNow_129 : decode cXM_conditionsNow 129 = .ok (.ifCond .ne 11, 3) := by decide +kernel
theorem dXM_conditionsNow_132 : decode cXM_conditionsNow 132 = .ok (.aload_n 0, 1) := by decide +kernel
theorem dXM_conditionsNow_133 : decode cXM_conditionsNow 133 = .ok (.iload_n 3, 1) := by decide +kernel
theorem dXM_conditionsNow_134 : decode cXM_conditionsNow 134 = .ok (.invokevirtual 91, 3) := by decide +kernel
theorem dXM_conditionsNow_137 : decode cXM_conditionsNow 137 = .ok (.ifCond .eq 7, 3) := by decide +kernel
theorem dXM_conditionsNow_140 : decode cXM_conditionsNow 140 = .ok (.iconst 1, 1) := by decide +kernel
theorem dXM_conditionsNow_141 : decode cXM_conditionsNow 141 = .ok (.goto 4, 3) := by decide +kernel
theorem dXM_conditionsNow_144 : decode cXM_conditionsNow 144 = .ok (.iconst 0, 1) := by decide +kernel
theorem dXM_conditionsNow_145 : decode cXM_conditionsNow 145 = .ok (.istore_n 2, 1) := by decide +kernel
theorem dXM_conditionsNow_146 : decode cXM_conditionsNow 146 = .ok (.iinc 3 1, 3) := by decide +kernel
theorem dXM_conditionsNow_149 : decode cXM_conditionsNow 149 = .ok (.goto (-27), 3) := by decide +kernel
theorem dXM_conditionsNow_152 : decode cXM_conditionsNow 152 = .ok (.iload_n 2, 1) := by decide +kernel
theorem dXM_conditionsNow_153 : decode cXM_conditionsNow 153 = .ok (.ifCond .eq 10, 3) := by decide +kernel
theorem dXM_conditionsNow_156 : decode cXM_conditionsNow 156 = .ok (.iload_n 1, 1) := by decide +kernel
theorem dXM_conditionsNow_157 : decode cXM_conditionsNow 157 = .ok (.bipush 32, 2) := by decide +kernel
theorem dXM_conditionsNow_159 : decode cXM_conditionsNow 159 = .ok (.iadd, 1) := by decide +kernel
theorem dXM_conditionsNow_160 : decode cXM_conditionsNow 160 = .ok (.goto 4, 3) := by decide +kernel
theorem dXM_conditionsNow_163 : decode cXM_conditionsNow 163 = .ok (.iload_n 1, 1) := by decide +kernel
theorem dXM_conditionsNow_164 : decode cXM_conditionsNow 164 = .ok (.ireturn, 1) := by decide +kernel
theorem dXM_commands_0 : decode cXM_commands 0 = .ok (.aload_n 0, 1) := by decide +kernel
theorem dXM_commands_1 : decode cXM_commands 1 = .ok (.getfield 26, 3) := by decide +kernel
theorem dXM_commands_4 : decode cXM_commands 4 = .ok (.iconst 1, 1) := by decide +kernel
theorem dXM_commands_5 : decode cXM_commands 5 = .ok (.if_icmp .lt 15, 3) := by decide +kernel
theorem dXM_commands_8 : decode cXM_commands 8 = .ok (.aload_n 0, 1) := by decide +kernel
theorem dXM_commands_9 : decode cXM_commands 9 = .ok (.getfield 26, 3) := by decide +kernel
theorem dXM_commands_12 : decode cXM_commands 12 = .ok (.iconst 4, 1) := by decide +kernel
theorem dXM_commands_13 : decode cXM_commands 13 = .ok (.if_icmp .gt 7, 3) := by decide +kernel
theorem dXM_commands_16 : decode cXM_commands 16 = .ok (.iconst 1, 1) := by decide +kernel
theorem dXM_commands_17 : decode cXM_commands 17 = .ok (.goto 4, 3) := by decide +kernel
theorem dXM_commands_20 : decode cXM_commands 20 = .ok (.iconst 0, 1) := by decide +kernel
theorem dXM_commands_21 : decode cXM_commands 21 = .ok (.istore_n 1, 1) := by decide +kernel
theorem dXM_commands_22 : decode cXM_commands 22 = .ok (.iload_n 1, 1) := by decide +kernel
theorem dXM_commands_23 : decode cXM_commands 23 = .ok (.ifCond .eq 17, 3) := by decide +kernel
theorem dXM_commands_26 : decode cXM_commands 26 = .ok (.aload_n 0, 1) := by decide +kernel
theorem dXM_commands_27 : decode cXM_commands 27 = .ok (.getfield 58, 3) := by decide +kernel
theorem dXM_commands_30 : decode cXM_commands 30 = .ok (.bipush (-17), 2) := by decide +kernel
theorem dXM_commands_32 : decode cXM_commands 32 = .ok (.iand, 1) := by decide +kernel
theorem dXM_commands_33 : decode cXM_commands 33 = .ok (.ifCond .ne 7, 3) := by decide +kernel
theorem dXM_commands_36 : decode cXM_commands 36 = .ok (.iconst 1, 1) := by decide +kernel
theorem dXM_commands_37 : decode cXM_commands 37 = .ok (.goto 4, 3) := by decide +kernel
theorem dXM_commands_40 : decode cXM_commands 40 = .ok (.iconst 0, 1) := by decide +kernel
theorem dXM_commands_41 : decode cXM_commands 41 = .ok (.istore_n 2, 1) := by decide +kernel
theorem dXM_commands_42 : decode cXM_commands 42 = .ok (.iload_n 1, 1) := by decide +kernel
theorem dXM_commands_43 : decode cXM_commands 43 = .ok (.ifCond .eq 19, 3) := by decide +kernel
theorem dXM_commands_46 : decode cXM_commands 46 = .ok (.aload_n 0, 1) := by decide +kernel
end
section
theorem dXM_commands_47 : decode cXM_commands 47 = .ok (.getfield 58, 3) := by decide +kernel
theorem dXM_commands_50 : decode cXM_commands 50 = .ok (.bipush 38, 2) := by decide +kernel
theorem dXM_commands_52 : decode cXM_commands 52 = .ok (.iand, 1) := by decide +kernel
theorem dXM_commands_53 : decode cXM_commands 53 = .ok (.ifCond .ne 9, 3) := by decide +kernel
theorem dXM_commands_56 : decode cXM_commands 56 = .ok (.iload_n 2, 1) := by decide +kernel
theorem dXM_commands_57 : decode cXM_commands 57 = .ok (.iconst 2, 1) := by decide +kernel
theorem dXM_commands_58 : decode cXM_commands 58 = .ok (.iadd, 1) := by decide +kernel
theorem dXM_commands_59 : decode cXM_commands 59 = .ok (.goto 4, 3) := by decide +kernel
theorem dXM_commands_62 : decode cXM_commands 62 = .ok (.iload_n 2, 1) := by decide +kernel
theorem dXM_commands_63 : decode cXM_commands 63 = .ok (.istore_n 2, 1) := by decide +kernel
theorem dXM_commands_64 : decode cXM_commands 64 = .ok (.aload_n 0, 1) := by decide +kernel
theorem dXM_commands_65 : decode cXM_commands 65 = .ok (.getfield 26, 3) := by decide +kernel
theorem dXM_commands_68 : decode cXM_commands 68 = .ok (.iconst 3, 1) := by decide +kernel
theorem dXM_commands_69 : decode cXM_commands 69 = .ok (.if_icmp .ne 24, 3) := by decide +kernel
theorem dXM_commands_72 : decode cXM_commands 72 = .ok (.aload_n 0, 1) := by decide +kernel
theorem dXM_commands_73 : decode cXM_commands 73 = .ok (.getfield 55, 3) := by decide +kernel
theorem dXM_commands_76 : decode cXM_commands 76 = .ok (.aload_n 0, 1) := by decide +kernel
theorem dXM_commands_77 : decode cXM_commands 77 = .ok (.getfield 36, 3) := by decide +kernel
theorem dXM_commands_80 : decode cXM_commands 80 = .ok (.if_icmp .eq 13, 3) := by decide +kernel
theorem dXM_commands_83 : decode cXM_commands 83 = .ok (.aload_n 0, 1) := by decide +kernel
theorem dXM_commands_84 : decode cXM_commands 84 = .ok (.getfield 58, 3) := by decide +kernel
theorem dXM_commands_87 : decode cXM_commands 87 = .ok (.bipush 8, 2) := by decide +kernel
theorem dXM_commands_89 : decode cXM_commands 89 = .ok (.iand, 1) := by decide +kernel
theorem dXM_commands_90 : decode cXM_commands 90 = .ok (.ifCond .eq 9, 3) := by decide +kernel
theorem dXM_commands_93 : decode cXM_commands 93 = .ok (.iload_n 2, 1) := by decide +kernel
theorem dXM_commands_94 : decode cXM_commands 94 = .ok (.iconst 4, 1) := by decide +kernel
theorem dXM_commands_95 : decode cXM_commands 95 = .ok (.iadd, 1) := by decide +kernel
theorem dXM_commands_96 : decode cXM_commands 96 = .ok (.goto 4, 3) := by decide +kernel
theorem dXM_commands_99 : decode cXM_commands 99 = .ok (.iload_n 2, 1) := by decide +kernel
theorem dXM_commands_100 : decode cXM_commands 100 = .ok (.istore_n 2, 1) := by decide +kernel
theorem dXM_commands_101 : decode cXM_commands 101 = .ok (.aload_n 0, 1) := by decide +kernel
theorem dXM_commands_102 : decode cXM_commands 102 = .ok (.getfield 26, 3) := by decide +kernel
theorem dXM_commands_105 : decode cXM_commands 105 = .ok (.iconst 3, 1) := by decide +kernel
theorem dXM_commands_106 : decode cXM_commands 106 = .ok (.if_icmp .ne 15, 3) := by decide +kernel
theorem dXM_commands_109 : decode cXM_commands 109 = .ok (.iload_n 2, 1) := by decide +kernel
theorem dXM_commands_110 : decode cXM_commands 110 = .ok (.iconst 1, 1) := by decide +kernel
theorem dXM_commands_111 : decode cXM_commands 111 = .ok (.iand, 1) := by decide +kernel
theorem dXM_commands_112 : decode cXM_commands 112 = .ok (.ifCond .eq 9, 3) := by decide +kernel
theorem dXM_commands_115 : decode cXM_commands 115 = .ok (.iload_n 2, 1) := by decide +kernel
theorem dXM_commands_116 : decode cXM_commands 116 = .ok (.iconst 4, 1) := by decide +kernel
theorem dXM_commands_117 : decode cXM_commands 117 = .ok (.iand, 1) := by decide +kernel
theorem dXM_commands_118 : decode cXM_commands 118 = .ok (.ifCond .eq 5, 3) := by decide +kernel
theorem dXM_commands_121 : decode cXM_commands 121 = .ok (.iload_n 2, 1) := by decide +kernel
theorem dXM_commands_122 : decode cXM_commands 122 = .ok (.ireturn, 1) := by decide +kernel
theorem dXM_commands_123 : decode cXM_commands 123 = .ok (.aload_n 0, 1) := by decide +kernel
theorem dXM_commands_124 : decode cXM_commands 124 = .ok (.dup, 1) := by decide +kernel
theorem dXM_commands_125 : decode cXM_commands 125 = .ok (.getfield 42, 3) := by decide +kernel
theorem dXM_commands_128 : decode cXM_commands 128 = .ok (.iconst 1, 1) := by decide +kernel
theorem dXM_commands_129 : decode cXM_commands 129 = .ok (.iadd, 1) := by decide +kernel
theorem dXM_commands_130 : decode cXM_commands 130 = .ok (.putfield 42, 3) := by decide +kernel
theorem dXM_commands_133 : decode cXM_commands 133 = .ok (.aload_n 0, 1) := by decide +kernel
theorem dXM_commands_134 : decode cXM_commands 134 = .ok (.getfield 7, 3) := by decide +kernel
theorem dXM_commands_137 : decode cXM_commands 137 = .ok (.iconst 1, 1) := by decide +kernel
theorem dXM_commands_138 : decode cXM_commands 138 = .ok (.iaload, 1) := by decide +kernel
theorem dXM_commands_139 : decode cXM_commands 139 = .ok (.i2l, 1) := by decide +kernel
theorem dXM_commands_140 : decode cXM_commands 140 = .ok (.ldc2_w 94, 3) := by decide +kernel
theorem dXM_commands_143 : decode cXM_commands 143 = .ok (.lmul, 1) := by decide +kernel
theorem dXM_commands_144 : decode cXM_commands 144 = .ok (.aload_n 0, 1) := by decide +kernel
theorem dXM_commands_145 : decode cXM_commands 145 = .ok (.getfield 42, 3) := by decide +kernel
theorem dXM_commands_148 : decode cXM_commands 148 = .ok (.i2l, 1) := by decide +kernel
theorem dXM_commands_149 : decode cXM_commands 149 = .ok (.lmul, 1) := by decide +kernel
theorem dXM_commands_150 : decode cXM_commands 150 = .ok (.ldc2_w 96, 3) := by decide +kernel
theorem dXM_commands_153 : decode cXM_commands 153 = .ok (.aload_n 0, 1) := by decide +kernel
theorem dXM_commands_154 : decode cXM_commands 154 = .ok (.getfield 7, 3) := by decide +kernel
theorem dXM_commands_157 : decode cXM_commands 157 = .ok (.iconst 3, 1) := by decide +kernel
theorem dXM_commands_158 : decode cXM_commands 158 = .ok (.iaload, 1) := by decide +kernel
theorem dXM_commands_159 : decode cXM_commands 159 = .ok (.i2l, 1) := by decide +kernel
theorem dXM_commands_160 : decode cXM_commands 160 = .ok (.lmul, 1) := by decide +kernel
theorem dXM_commands_161 : decode cXM_commands 161 = .ok (.ldiv, 1) := by decide +kernel
theorem dXM_commands_162 : decode cXM_commands 162 = .ok (.lstore_n 3, 1) := by decide +kernel
theorem dXM_commands_163 : decode cXM_commands 163 = .ok (.lload_n 3, 1) := by decide +kernel
theorem dXM_commands_164 : decode cXM_commands 164 = .ok (.ldc2_w 98, 3) := by decide +kernel
theorem dXM_commands_167 : decode cXM_commands 167 = .ok (.aload_n 0, 1) := by decide +kernel
theorem dXM_commands_168 : decode cXM_commands 168 = .ok (.getfield 45, 3) := by decide +kernel
theorem dXM_commands_171 : decode cXM_commands 171 = .ok (.i2l, 1) := by decide +kernel
theorem dXM_commands_172 : decode cXM_commands 172 = .ok (.lmul, 1) := by decide +kernel
theorem dXM_commands_173 : decode cXM_commands 173 = .ok (.ldc2_w 98, 3) := by decide +kernel
theorem dXM_commands_176 : decode cXM_commands 176 = .ok (.ladd, 1) := by decide +kernel
theorem dXM_commands_177 : decode cXM_commands 177 = .ok (.lcmp, 1) := by decide +kernel
theorem dXM_commands_178 : decode cXM_commands 178 = .ok (.ifCond .ge 5, 3) := by decide +kernel
theorem dXM_commands_181 : decode cXM_commands 181 = .ok (.iload_n 2, 1) := by decide +kernel
theorem dXM_commands_182 : decode cXM_commands 182 = .ok (.ireturn, 1) := by decide +kernel
theorem dXM_commands_183 : decode cXM_commands 183 = .ok (.aload_n 0, 1) := by decide +kernel
theorem dXM_commands_184 : decode cXM_commands 184 = .ok (.dup, 1) := by decide +kernel
theorem dXM_commands_185 : decode cXM_commands 185 = .ok (.getfield 45, 3) := by decide +kernel
theorem dXM_commands_188 : decode cXM_commands 188 = .ok (.iconst 1, 1) := by decide +kernel
theorem dXM_commands_189 : decode cXM_commands 189 = .ok (.iadd, 1) := by decide +kernel
theorem dXM_commands_190 : decode cXM_commands 190 = .ok (.putfield 45, 3) := by decide +kernel
theorem dXM_commands_193 : decode cXM_commands 193 = .ok (.iload_n 2, 1) := by decide +kernel
theorem dXM_commands_194 : decode cXM_commands 194 = .ok (.bipush 8, 2) := by decide +kernel
theorem dXM_commands_196 : decode cXM_commands 196 = .ok (.iadd, 1) := by decide +kernel
theorem dXM_commands_197 : decode cXM_commands 197 = .ok (.ireturn, 1) := by decide +kernel
theorem dXM_guarded_0 : decode cXM_guarded 0 = .ok (.aload_n 0, 1) := by decide +kernel
theorem dXM_guarded_1 : decode cXM_guarded 1 = .ok (.invokevirtual 72, 3) := by decide +kernel
theorem dXM_guarded_4 : decode cXM_guarded 4 = .ok (.ifCond .eq 53, 3) := by decide +kernel
theorem dXM_guarded_7 : decode cXM_guarded 7 = .ok (.aload_n 0, 1) := by decide +kernel
theorem dXM_guarded_8 : decode cXM_guarded 8 = .ok (.getfield 13, 3) := by decide +kernel
theorem dXM_guarded_11 : decode cXM_guarded 11 = .ok (.iconst 4, 1) := by decide +kernel
theorem dXM_guarded_12 : decode cXM_guarded 12 = .ok (.iaload, 1) := by decide +kernel
theorem dXM_guarded_13 : decode cXM_guarded 13 = .ok (.ifCond .ne 40, 3) := by decide +kernel
theorem dXM_guarded_16 : decode cXM_guarded 16 = .ok (.aload_n 0, 1) := by decide +kernel
theorem dXM_guarded_17 : decode cXM_guarded 17 = .ok (.aload_n 0, 1) := by decide +kernel
theorem dXM_guarded_18 : decode cXM_guarded 18 = .ok (.getfield 13, 3) := by decide +kernel
theorem dXM_guarded_21 : decode cXM_guarded 21 = .ok (.iconst 0, 1) := by decide +kernel
theorem dXM_guarded_22 : decode cXM_guarded 22 = .ok (.iaload, 1) := by decide +kernel
theorem dXM_guarded_23 : decode cXM_guarded 23 = .ok (.sipush (-350), 3) := by decide +kernel
theorem dXM_guarded_26 : decode cXM_guarded 26 = .ok (.sipush 250, 3) := by decide +kernel
theorem dXM_guarded_29 : decode cXM_guarded 29 = .ok (.invokevirtual 75, 3) := by decide +kernel
theorem dXM_guarded_32 : decode cXM_guarded 32 = .ok (.ifCond .ne 21, 3) := by decide +kernel
theorem dXM_guarded_35 : decode cXM_guarded 35 = .ok (.aload_n 0, 1) := by decide +kernel
theorem dXM_guarded_36 : decode cXM_guarded 36 = .ok (.aload_n 0, 1) := by decide +kernel
theorem dXM_guarded_37 : decode cXM_guarded 37 = .ok (.getfield 13, 3) := by decide +kernel
theorem dXM_guarded_40 : decode cXM_guarded 40 = .ok (.iconst 1, 1) := by decide +kernel
theorem dXM_guarded_41 : decode cXM_guarded 41 = .ok (.iaload, 1) := by decide +kernel
theorem dXM_guarded_42 : decode cXM_guarded 42 = .ok (.bipush (-50), 2) := by decide +kernel
theorem dXM_guarded_44 : decode cXM_guarded 44 = .ok (.sipush 450, 3) := by decide +kernel
theorem dXM_guarded_47 : decode cXM_guarded 47 = .ok (.invokevirtual 75, 3) := by decide +kernel
theorem dXM_guarded_50 : decode cXM_guarded 50 = .ok (.ifCond .eq 7, 3) := by decide +kernel
theorem dXM_guarded_53 : decode cXM_guarded 53 = .ok (.iconst 1, 1) := by decide +kernel
theorem dXM_guarded_54 : decode cXM_guarded 54 = .ok (.goto 4, 3) := by decide +kernel
theorem dXM_guarded_57 : decode cXM_guarded 57 = .ok (.iconst 0, 1) := by decide +kernel
theorem dXM_guarded_58 : decode cXM_guarded 58 = .ok (.istore_n 2, 1) := by decide +kernel
theorem dXM_guarded_59 : decode cXM_guarded 59 = .ok (.iload_n 1, 1) := by decide +kernel
theorem dXM_guarded_60 : decode cXM_guarded 60 = .ok (.istore_n 3, 1) := by decide +kernel
theorem dXM_guarded_61 : decode cXM_guarded 61 = .ok (.iload_n 2, 1) := by decide +kernel
theorem dXM_guarded_62 : decode cXM_guarded 62 = .ok (.ifCond .eq 17, 3) := by decide +kernel
theorem dXM_guarded_65 : decode cXM_guarded 65 = .ok (.aload_n 0, 1) := by decide +kernel
theorem dXM_guarded_66 : decode cXM_guarded 66 = .ok (.dup, 1) := by decide +kernel
theorem dXM_guarded_67 : decode cXM_guarded 67 = .ok (.getfield 100, 3) := by decide +kernel
theorem dXM_guarded_70 : decode cXM_guarded 70 = .ok (.iconst 1, 1) := by decide +kernel
theorem dXM_guarded_71 : decode cXM_guarded 71 = .ok (.iadd, 1) := by decide +kernel
theorem dXM_guarded_72 : decode cXM_guarded 72 = .ok (.putfield 100, 3) := by decide +kernel
theorem dXM_guarded_75 : decode cXM_guarded 75 = .ok (.iload_n 3, 1) := by decide +kernel
theorem dXM_guarded_76 : decode cXM_guarded 76 = .ok (.iconst 4, 1) := by decide +kernel
theorem dXM_guarded_77 : decode cXM_guarded 77 = .ok (.iand, 1) := by decide +kernel
theorem dXM_guarded_78 : decode cXM_guarded 78 = .ok (.istore_n 3, 1) := by decide +kernel
theorem dXM_guarded_79 : decode cXM_guarded 79 = .ok (.aload_n 0, 1) := by decide +kernel
theorem dXM_guarded_80 : decode cXM_guarded 80 = .ok (.getfield 26, 3) := by decide +kernel
theorem dXM_guarded_83 : decode cXM_guarded 83 = .ok (.iconst 3, 1) := by decide +kernel
theorem dXM_guarded_84 : decode cXM_guarded 84 = .ok (.if_icmp .ne 19, 3) := by decide +kernel
theorem dXM_guarded_87 : decode cXM_guarded 87 = .ok (.aload_n 0, 1) := by decide +kernel
theorem dXM_guarded_88 : decode cXM_guarded 88 = .ok (.getfield 13, 3) := by decide +kernel
theorem dXM_guarded_91 : decode cXM_guarded 91 = .ok (.iconst 2, 1) := by decide +kernel
theorem dXM_guarded_92 : decode cXM_guarded 92 = .ok (.iaload, 1) := by decide +kernel
theorem dXM_guarded_93 : decode cXM_guarded 93 = .ok (.sipush 410, 3) := by decide +kernel
theorem dXM_guarded_96 : decode cXM_guarded 96 = .ok (.if_icmp .le 7, 3) := by decide +kernel
theorem dXM_guarded_99 : decode cXM_guarded 99 = .ok (.iload_n 3, 1) := by decide +kernel
theorem dXM_guarded_100 : decode cXM_guarded 100 = .ok (.iconst 4, 1) := by decide +kernel
theorem dXM_guarded_101 : decode cXM_guarded 101 = .ok (.ior, 1) := by decide +kernel
theorem dXM_guarded_102 : decode cXM_guarded 102 = .ok (.istore_n 3, 1) := by decide +kernel
theorem dXM_guarded_103 : decode cXM_guarded 103 = .ok (.aload_n 0, 1) := by decide +kernel
theorem dXM_guarded_104 : decode cXM_guarded 104 = .ok (.getfield 26, 3) := by decide +kernel
theorem dXM_guarded_107 : decode cXM_guarded 107 = .ok (.iconst 3, 1) := by decide +kernel
theorem dXM_guarded_108 : decode cXM_guarded 108 = .ok (.if_icmp .ne 30, 3) := by decide +kernel
theorem dXM_guarded_111 : decode cXM_guarded 111 = .ok (.sipush 500, 3) := by decide +kernel
theorem dXM_guarded_114 : decode cXM_guarded 114 = .ok (.aload_n 0, 1) := by decide +kernel
theorem dXM_guarded_115 : decode cXM_guarded 115 = .ok (.getfield 48, 3) := by decide +kernel
theorem dXM_guarded_118 : decode cXM_guarded 118 = .ok (.iconst 1, 1) := by decide +kernel
theorem dXM_guarded_119 : decode cXM_guarded 119 = .ok (.iadd, 1) := by decide +kernel
theorem dXM_guarded_120 : decode cXM_guarded 120 = .ok (.imul, 1) := by decide +kernel
theorem dXM_guarded_121 : decode cXM_guarded 121 = .ok (.aload_n 0, 1) := by decide +kernel
theorem dXM_guarded_122 : decode cXM_guarded 122 = .ok (.getfield 7, 3) := by decide +kernel
theorem dXM_guarded_125 : decode cXM_guarded 125 = .ok (.iconst 1, 1) := by decide +kernel
theorem dXM_guarded_126 : decode cXM_guarded 126 = .ok (.iaload, 1) := by decide +kernel
theorem dXM_guarded_127 : decode cXM_guarded 127 = .ok (.sipush 1000, 3) := by decide +kernel
theorem dXM_guarded_130 : decode cXM_guarded 130 = .ok (.imul, 1) := by decide +kernel
theorem dXM_guarded_131 : decode cXM_guarded 131 = .ok (.sipush 500, 3) := by decide +kernel
theorem dXM_guarded_134 : decode cXM_guarded 134 = .ok (.iadd, 1) := by decide +kernel
theorem dXM_guarded_135 : decode cXM_guarded 135 = .ok (.if_icmp .le 8, 3) := by decide +kernel
theorem dXM_guarded_138 : decode cXM_guarded 138 = .ok (.iload_n 3, 1) := by decide +kernel
theorem dXM_guarded_139 : decode cXM_guarded 139 = .ok (.bipush (-9), 2) := by decide +kernel
theorem dXM_guarded_141 : decode cXM_guarded 141 = .ok (.iand, 1) := by decide +kernel
theorem dXM_guarded_142 : decode cXM_guarded 142 = .ok (.istore_n 3, 1) := by decide +kernel
theorem dXM_guarded_143 : decode cXM_guarded 143 = .ok (.iload_n 3, 1) := by decide +kernel
theorem dXM_guarded_144 : decode cXM_guarded 144 = .ok (.ireturn, 1) := by decide +kernel
theorem dXM_one_0 : decode cXM_one 0 = .ok (.aload_n 0, 1) := by decide +kernel
theorem dXM_one_1 : decode cXM_one 1 = .ok (.getfield 58, 3) := by decide +kernel
theorem dXM_one_4 : decode cXM_one 4 = .ok (.istore_n 1, 1) := by decide +kernel
theorem dXM_one_5 : decode cXM_one 5 = .ok (.aload_n 0, 1) := by decide +kernel
theorem dXM_one_6 : decode cXM_one 6 = .ok (.dup, 1) := by decide +kernel
theorem dXM_one_7 : decode cXM_one 7 = .ok (.getfield 36, 3) := by decide +kernel
theorem dXM_one_10 : decode cXM_one 10 = .ok (.iconst 1, 1) := by decide +kernel
theorem dXM_one_11 : decode cXM_one 11 = .ok (.iadd, 1) := by decide +kernel
theorem dXM_one_12 : decode cXM_one 12 = .ok (.putfield 36, 3) := by decide +kernel
theorem dXM_one_15 : decode cXM_one 15 = .ok (.aload_n 0, 1) := by decide +kernel
theorem dXM_one_16 : decode cXM_one 16 = .ok (.invokevirtual 103, 3) := by decide +kernel
theorem dXM_one_19 : decode cXM_one 19 = .ok (.aload_n 0, 1) := by decide +kernel
theorem dXM_one_20 : decode cXM_one 20 = .ok (.aload_n 0, 1) := by decide +kernel
theorem dXM_one_21 : decode cXM_one 21 = .ok (.invokevirtual 106, 3) := by decide +kernel
theorem dXM_one_24 : decode cXM_one 24 = .ok (.putfield 65, 3) := by decide +kernel
theorem dXM_one_27 : decode cXM_one 27 = .ok (.aload_n 0, 1) := by decide +kernel
theorem dXM_one_28 : decode cXM_one 28 = .ok (.aload_n 0, 1) := by decide +kernel
theorem dXM_one_29 : decode cXM_one 29 = .ok (.getfield 58, 3) := by decide +kernel
theorem dXM_one_32 : decode cXM_one 32 = .ok (.aload_n 0, 1) := by decide +kernel
theorem dXM_one_33 : decode cXM_one 33 = .ok (.getfield 65, 3) := by decide +kernel
theorem dXM_one_36 : decode cXM_one 36 = .ok (.ior, 1) := by decide +kernel
theorem dXM_one_37 : decode cXM_one 37 = .ok (.putfield 58, 3) := by decide +kernel
theorem dXM_one_40 : decode cXM_one 40 = .ok (.aload_n 0, 1) := by decide +kernel
theorem dXM_one_41 : decode cXM_one 41 = .ok (.invokevirtual 110, 3) := by decide +kernel
theorem dXM_one_44 : decode cXM_one 44 = .ok (.istore_n 2, 1) := by decide +kernel
theorem dXM_one_45 : decode cXM_one 45 = .ok (.aload_n 0, 1) := by decide +kernel
theorem dXM_one_46 : decode cXM_one 46 = .ok (.aload_n 0, 1) := by decide +kernel
theorem dXM_one_47 : decode cXM_one 47 = .ok (.aload_n 0, 1) := by decide +kernel
theorem dXM_one_48 : decode cXM_one 48 = .ok (.getfield 19, 3) := by decide +kernel
theorem dXM_one_51 : decode cXM_one 51 = .ok (.ifCond .ge 7, 3) := by decide +kernel
theorem dXM_one_54 : decode cXM_one 54 = .ok (.iload_n 2, 1) := by decide +kernel
theorem dXM_one_55 : decode cXM_one 55 = .ok (.goto 7, 3) := by decide +kernel
theorem dXM_one_58 : decode cXM_one 58 = .ok (.aload_n 0, 1) := by decide +kernel
theorem dXM_one_59 : decode cXM_one 59 = .ok (.getfield 19, 3) := by decide +kernel
theorem dXM_one_62 : decode cXM_one 62 = .ok (.invokevirtual 113, 3) := by decide +kernel
theorem dXM_one_65 : decode cXM_one 65 = .ok (.putfield 116, 3) := by decide +kernel
theorem dXM_one_68 : decode cXM_one 68 = .ok (.aload_n 0, 1) := by decide +kernel
theorem dXM_one_69 : decode cXM_one 69 = .ok (.aload_n 0, 1) := by decide +kernel
theorem dXM_one_70 : decode cXM_one 70 = .ok (.getfield 116, 3) := by decide +kernel
theorem dXM_one_73 : decode cXM_one 73 = .ok (.bipush 8, 2) := by decide +kernel
theorem dXM_one_75 : decode cXM_one 75 = .ok (.iand, 1) := by decide +kernel
theorem dXM_one_76 : decode cXM_one 76 = .ok (.ifCond .eq 12, 3) := by decide +kernel
theorem dXM_one_79 : decode cXM_one 79 = .ok (.aload_n 0, 1) := by decide +kernel
theorem dXM_one_80 : decode cXM_one 80 = .ok (.getfield 48, 3) := by decide +kernel
theorem dXM_one_83 : decode cXM_one 83 = .ok (.iconst 1, 1) := by decide +kernel
theorem dXM_one_84 : decode cXM_one 84 = .ok (.iadd, 1) := by decide +kernel
theorem dXM_one_85 : decode cXM_one 85 = .ok (.goto 7, 3) := by decide +kernel
theorem dXM_one_88 : decode cXM_one 88 = .ok (.aload_n 0, 1) := by decide +kernel
theorem dXM_one_89 : decode cXM_one 89 = .ok (.getfield 48, 3) := by decide +kernel
theorem dXM_one_92 : decode cXM_one 92 = .ok (.putfield 48, 3) := by decide +kernel
theorem dXM_one_95 : decode cXM_one 95 = .ok (.aload_n 0, 1) := by decide +kernel
theorem dXM_one_96 : decode cXM_one 96 = .ok (.getfield 26, 3) := by decide +kernel
theorem dXM_one_99 : decode cXM_one 99 = .ok (.iconst 1, 1) := by decide +kernel
theorem dXM_one_100 : decode cXM_one 100 = .ok (.if_icmp .eq 11, 3) := by decide +kernel
theorem dXM_one_103 : decode cXM_one 103 = .ok (.aload_n 0, 1) := by decide +kernel
theorem dXM_one_104 : decode cXM_one 104 = .ok (.getfield 26, 3) := by decide +kernel
theorem dXM_one_107 : decode cXM_one 107 = .ok (.iconst 4, 1) := by decide +kernel
theorem dXM_one_108 : decode cXM_one 108 = .ok (.if_icmp .ne 12, 3) := by decide +kernel
theorem dXM_one_111 : decode cXM_one 111 = .ok (.aload_n 0, 1) := by decide +kernel
theorem dXM_one_112 : decode cXM_one 112 = .ok (.getfield 116, 3) := by decide +kernel
theorem dXM_one_115 : decode cXM_one 115 = .ok (.iconst 1, 1) := by decide +kernel
theorem dXM_one_116 : decode cXM_one 116 = .ok (.iand, 1) := by decide +kernel
theorem dXM_one_117 : decode cXM_one 117 = .ok (.ifCond .ne 11, 3) := by decide +kernel
theorem dXM_one_120 : decode cXM_one 120 = .ok (.aload_n 0, 1) := by decide +kernel
theorem dXM_one_121 : decode cXM_one 121 = .ok (.getfield 26, 3) := by decide +kernel
theorem dXM_one_124 : decode cXM_one 124 = .ok (.iconst 5, 1) := by decide +kernel
theorem dXM_one_125 : decode cXM_one 125 = .ok (.if_icmp .ne 13, 3) := by decide +kernel
theorem dXM_one_128 : decode cXM_one 128 = .ok (.aload_n 0, 1) := by decide +kernel
theorem dXM_one_129 : decode cXM_one 129 = .ok (.dup, 1) := by decide +kernel
theorem dXM_one_130 : decode cXM_one 130 = .ok (.getfield 39, 3) := by decide +kernel
theorem dXM_one_133 : decode cXM_one 133 = .ok (.iconst 1, 1) := by decide +kernel
theorem dXM_one_134 : decode cXM_one 134 = .ok (.iadd, 1) := by decide +kernel
theorem dXM_one_135 : decode cXM_one 135 = .ok (.putfield 39, 3) := by decide +kernel
theorem dXM_one_138 : decode cXM_one 138 = .ok (.aload_n 0, 1) := by decide +kernel
theorem dXM_one_139 : decode cXM_one 139 = .ok (.getfield 26, 3) := by decide +kernel
theorem dXM_one_142 : decode cXM_one 142 = .ok (.iconst 3, 1) := by decide +kernel
theorem dXM_one_143 : decode cXM_one 143 = .ok (.if_icmp .ne 24, 3) := by decide +kernel
theorem dXM_one_146 : decode cXM_one 146 = .ok (.aload_n 0, 1) := by decide +kernel
theorem dXM_one_147 : decode cXM_one 147 = .ok (.getfield 42, 3) := by decide +kernel
theorem dXM_one_150 : decode cXM_one 150 = .ok (.sipush 600, 3) := by decide +kernel
theorem dXM_one_153 : decode cXM_one 153 = .ok (.aload_n 0, 1) := by decide +kernel
theorem dXM_one_154 : decode cXM_one 154 = .ok (.getfield 7, 3) := by decide +kernel
theorem dXM_one_157 : decode cXM_one 157 = .ok (.iconst 3, 1) := by decide +kernel
theorem dXM_one_158 : decode cXM_one 158 = .ok (.iaload, 1) := by decide +kernel
theorem dXM_one_159 : decode cXM_one 159 = .ok (.imul, 1) := by decide +kernel
theorem dXM_one_160 : decode cXM_one 160 = .ok (.if_icmp .ne 7, 3) := by decide +kernel
theorem dXM_one_163 : decode cXM_one 163 = .ok (.iconst 1, 1) := by decide +kernel
theorem dXM_one_164 : decode cXM_one 164 = .ok (.goto 4, 3) := by decide +kernel
theorem dXM_one_167 : decode cXM_one 167 = .ok (.iconst 0, 1) := by decide +kernel
theorem dXM_one_168 : decode cXM_one 168 = .ok (.istore_n 3, 1) := by decide +kernel
theorem dXM_one_169 : decode cXM_one 169 = .ok (.iload_n 3, 1) := by decide +kernel
theorem dXM_one_170 : decode cXM_one 170 = .ok (.ifCond .eq 8, 3) := by decide +kernel
theorem dXM_one_173 : decode cXM_one 173 = .ok (.aload_n 0, 1) := by decide +kernel
theorem dXM_one_174 : decode cXM_one 174 = .ok (.iconst 4, 1) := by decide +kernel
theorem dXM_one_175 : decode cXM_one 175 = .ok (.invokevirtual 61, 3) := by decide +kernel
theorem dXM_one_178 : decode cXM_one 178 = .ok (.iload_n 3, 1) := by decide +kernel
theorem dXM_one_179 : decode cXM_one 179 = .ok (.ifCond .ne 11, 3) := by decide +kernel
theorem dXM_one_182 : decode cXM_one 182 = .ok (.aload_n 0, 1) := by decide +kernel
theorem dXM_one_183 : decode cXM_one 183 = .ok (.getfield 58, 3) := by decide +kernel
theorem dXM_one_186 : decode cXM_one 186 = .ok (.iload_n 1, 1) := by decide +kernel
theorem dXM_one_187 : decode cXM_one 187 = .ok (.if_icmp .eq 7, 3) := by decide +kernel
theorem dXM_one_190 : decode cXM_one 190 = .ok (.iconst 1, 1) := by decide +kernel
theorem dXM_one_191 : decode cXM_one 191 = .ok (.goto 4, 3) := by decide +kernel
theorem dXM_one_194 : decode cXM_one 194 = .ok (.iconst 0, 1) := by decide +kernel
theorem dXM_one_195 : decode cXM_one 195 = .ok (.ireturn, 1) := by decide +kernel
theorem dXM_tick_0 : decode cXM_tick 0 = .ok (.iload_n 1, 1) := by decide +kernel
theorem dXM_tick_1 : decode cXM_tick 1 = .ok (.iconst 1, 1) := by decide +kernel
theorem dXM_tick_2 : decode cXM_tick 2 = .ok (.if_icmp .lt 10, 3) := by decide +kernel
theorem dXM_tick_5 : decode cXM_tick 5 = .ok (.iload_n 1, 1) := by decide +kernel
theorem dXM_tick_6 : decode cXM_tick 6 = .ok (.sipush 600, 3) := by decide +kernel
theorem dXM_tick_9 : decode cXM_tick 9 = .ok (.if_icmp .le 5, 3) := by decide +kernel
theorem dXM_tick_12 : decode cXM_tick 12 = .ok (.iconst (-1), 1) := by decide +kernel
theorem dXM_tick_13 : decode cXM_tick 13 = .ok (.ireturn, 1) := by decide +kernel
theorem dXM_tick_14 : decode cXM_tick 14 = .ok (.iconst 0, 1) := by decide +kernel
theorem dXM_tick_15 : decode cXM_tick 15 = .ok (.istore_n 2, 1) := by decide +kernel
theorem dXM_tick_16 : decode cXM_tick 16 = .ok (.iconst 1, 1) := by decide +kernel
theorem dXM_tick_17 : decode cXM_tick 17 = .ok (.istore_n 3, 1) := by decide +kernel
theorem dXM_tick_18 : decode cXM_tick 18 = .ok (.iload_n 2, 1) := by decide +kernel
theorem dXM_tick_19 : decode cXM_tick 19 = .ok (.iload_n 1, 1) := by decide +kernel
theorem dXM_tick_20 : decode cXM_tick 20 = .ok (.if_icmp .ge 26, 3) := by decide +kernel
theorem dXM_tick_23 : decode cXM_tick 23 = .ok (.iload_n 3, 1) := by decide +kernel
theorem dXM_tick_24 : decode cXM_tick 24 = .ok (.ifCond .eq 22, 3) := by decide +kernel
theorem dXM_tick_27 : decode cXM_tick 27 = .ok (.aload_n 0, 1) := by decide +kernel
theorem dXM_tick_28 : decode cXM_tick 28 = .ok (.invokevirtual 119, 3) := by decide +kernel
theorem dXM_tick_31 : decode cXM_tick 31 = .ok (.ifCond .ne 7, 3) := by decide +kernel
theorem dXM_tick_34 : decode cXM_tick 34 = .ok (.iconst 1, 1) := by decide +kernel
theorem dXM_tick_35 : decode cXM_tick 35 = .ok (.goto 4, 3) := by decide +kernel
theorem dXM_tick_38 : decode cXM_tick 38 = .ok (.iconst 0, 1) := by decide +kernel
theorem dXM_tick_39 : decode cXM_tick 39 = .ok (.istore_n 3, 1) := by decide +kernel
theorem dXM_tick_40 : decode cXM_tick 40 = .ok (.iinc 2 1, 3) := by decide +kernel
theorem dXM_tick_43 : decode cXM_tick 43 = .ok (.goto (-25), 3) := by decide +kernel
theorem dXM_tick_46 : decode cXM_tick 46 = .ok (.iload_n 2, 1) := by decide +kernel
theorem dXM_tick_47 : decode cXM_tick 47 = .ok (.ireturn, 1) := by decide +kernel
theorem dXM_phase_0 : decode cXM_phase 0 = .ok (.aload_n 0, 1) := by decide +kernel
theorem dXM_phase_1 : decode cXM_phase 1 = .ok (.getfield 26, 3) := by decide +kernel
theorem dXM_phase_4 : decode cXM_phase 4 = .ok (.ireturn, 1) := by decide +kernel
theorem dXM_alarms_0 : decode cXM_alarms 0 = .ok (.aload_n 0, 1) := by decide +kernel
theorem dXM_alarms_1 : decode cXM_alarms 1 = .ok (.getfield 58, 3) := by decide +kernel
theorem dXM_alarms_4 : decode cXM_alarms 4 = .ok (.ireturn, 1) := by decide +kernel
theorem dXM_conditions_0 : decode cXM_conditions 0 = .ok (.aload_n 0, 1) := by decide +kernel
theorem dXM_conditions_1 : decode cXM_conditions 1 = .ok (.getfield 65, 3) := by decide +kernel
theorem dXM_conditions_4 : decode cXM_conditions 4 = .ok (.ireturn, 1) := by decide +kernel
theorem dXM_outputs_0 : decode cXM_outputs 0 = .ok (.aload_n 0, 1) := by decide +kernel
theorem dXM_outputs_1 : decode cXM_outputs 1 = .ok (.getfield 116, 3) := by decide +kernel
theorem dXM_outputs_4 : decode cXM_outputs 4 = .ok (.ireturn, 1) := by decide +kernel
theorem dXM_effective_0 : decode cXM_effective 0 = .ok (.aload_n 0, 1) := by decide +kernel
theorem dXM_effective_1 : decode cXM_effective 1 = .ok (.getfield 42, 3) := by decide +kernel
theorem dXM_effective_4 : decode cXM_effective 4 = .ok (.ireturn, 1) := by decide +kernel
theorem dXM_accounted_0 : decode cXM_accounted 0 = .ok (.sipush 500, 3) := by decide +kernel
theorem dXM_accounted_3 : decode cXM_accounted 3 = .ok (.aload_n 0, 1) := by decide +kernel
theorem dXM_accounted_4 : decode cXM_accounted 4 = .ok (.getfield 45, 3) := by decide +kernel
theorem dXM_accounted_7 : decode cXM_accounted 7 = .ok (.imul, 1) := by decide +kernel
theorem dXM_accounted_8 : decode cXM_accounted 8 = .ok (.ireturn, 1) := by decide +kernel
theorem dXM_strokes_0 : decode cXM_strokes 0 = .ok (.aload_n 0, 1) := by decide +kernel
theorem dXM_strokes_1 : decode cXM_strokes 1 = .ok (.getfield 48, 3) := by decide +kernel
theorem dXM_strokes_4 : decode cXM_strokes 4 = .ok (.ireturn, 1) := by decide +kernel
theorem dXM_trips_0 : decode cXM_trips 0 = .ok (.aload_n 0, 1) := by decide +kernel
theorem dXM_trips_1 : decode cXM_trips 1 = .ok (.getfield 100, 3) := by decide +kernel
theorem dXM_trips_4 : decode cXM_trips 4 = .ok (.ireturn, 1) := by decide +kernel
theorem dXM_counted_0 : decode cXM_counted 0 = .ok (.aload_n 0, 1) := by decide +kernel
theorem dXM_counted_1 : decode cXM_counted 1 = .ok (.getfield 39, 3) := by decide +kernel
theorem dXM_counted_4 : decode cXM_counted 4 = .ok (.ireturn, 1) := by decide +kernel
theorem dXM_steady_0 : decode cXM_steady 0 = .ok (.aload_n 0, 1) := by decide +kernel
theorem dXM_steady_1 : decode cXM_steady 1 = .ok (.getfield 36, 3) := by decide +kernel
theorem dXM_steady_4 : decode cXM_steady 4 = .ok (.aload_n 0, 1) := by decide +kernel
theorem dXM_steady_5 : decode cXM_steady 5 = .ok (.getfield 55, 3) := by decide +kernel
theorem dXM_steady_8 : decode cXM_steady 8 = .ok (.isub, 1) := by decide +kernel
theorem dXM_steady_9 : decode cXM_steady 9 = .ok (.ireturn, 1) := by decide +kernel
end
section
abbrev SX : Type := Int32 × Int32 × Int32 × Int32 × Int32 × Int32 × Int32 × Int32 × Int32 × Int32 × Int32 × Int32 × Int32 × Int32 × (Nat → Int32) × (Nat → Int32) × (Nat → Int32) × (Nat → Int32)
abbrev wdX (cI : ClassId) (h0 a0 a1 a2 a3 : Nat) (g4 g5 g6 g7 g8 g9 g10 g11 g12 g13 g14 g15 g16 g17 : Int32) (r0 r1 r2 r3 : Nat → Int32) : va_W := [(h0, .inr (0, [.ref a0, .ref a1, .ref a2, .ref a3, .int g4, .int g5, .int g6, .int g7, .int g8, .int g9, .int g10, .int g11, .int g12, .int g13, .int g14, .int g15, .int g16, .int g17])), (a0, .inl (cI, 10, .inl r0)), (a1, .inl (cI, 6, .inl r1)), (a2, .inl (cI, 6, .inl r2)), (a3, .inl (cI, 6, .inl r3))]
abbrev wfX (cI : ClassId) (h0 a0 a1 a2 a3 : Nat) : SX → va_W := fun u => match u with
  | (g4, g5, g6, g7, g8, g9, g10, g11, g12, g13, g14, g15, g16, g17, r0, r1, r2, r3) => wdX cI h0 a0 a1 a2 a3 g4 g5 g6 g7 g8 g9 g10 g11 g12 g13 g14 g15 g16 g17 r0 r1 r2 r3
abbrev SM : Type := Int32 × Int32 × Int32 × Int32 × Int32 × Int32 × Int32 × Int32 × Int32 × Int32 × Int32 × Int32 × Int32 × Int32 × Int32 × (Nat → Int32) × (Nat → Int32) × (Nat → Int32) × (Nat → Int32)
abbrev wdM (cI : ClassId) (h0 a0 a1 a2 a9 : Nat) (g3 g4 g5 g6 g7 g8 g10 g11 g12 g13 g14 g15 g16 g17 g18 : Int32) (r0 r1 r2 r9 : Nat → Int32) : va_W := [(h0, .inr (1, [.ref a0, .ref a1, .ref a2, .int g3, .int g4, .int g5, .int g6, .int g7, .int g8, .ref a9, .int g10, .int g11, .int g12, .int g13, .int g14, .int g15, .int g16, .int g17, .int g18])), (a0, .inl (cI, 10, .inl r0)), (a1, .inl (cI, 6, .inl r1)), (a2, .inl (cI, 6, .inl r2)), (a9, .inl (cI, 6, .inl r9))]
abbrev wfM (cI : ClassId) (h0 a0 a1 a2 a9 : Nat) : SM → va_W := fun u => match u with
  | (g3, g4, g5, g6, g7, g8, g10, g11, g12, g13, g14, g15, g16, g17, g18, r0, r1, r2, r9) => wdM cI h0 a0 a1 a2 a9 g3 g4 g5 g6 g7 g8 g10 g11 g12 g13 g14 g15 g16 g17 g18 r0 r1 r2 r9
section BWA
variable {p : Program} {l : Launch} {e : Env} {R : Room} {s : State} {m : MethodId} {args : Array Value} {below : List Frame} {meth : Method} {c : Code} {H : Heap} {locs : List Loc} {cells slots : Nat} {Q : State → Prop}
variable {cc : ByteArray} {pc : Nat} {ls : Array Slot} {rest : List Value} {D : va_G} {cl : List vw_C} {A : Nat → Prop} {H0 : Heap} {tys : List (ClassId × FieldType)}
theorem bw_Q {Q0 : State → Prop} {g : JFrame} (h : ∀ Q, Q = Q0 → W p l e R s m args below meth c H locs cells slots Q g) : W p l e R s m args below meth c H locs cells slots Q0 g := h Q0 rfl
theorem bw_in {i : Int32} {n : Nat} (h : decide (¬ (i < 0 ∨ n ≤ i.toNatClampNeg)) = true) : vp_in i n := of_decide_eq_true h
theorem bw_inc1 (x : Int32) : x + Int32.ofInt 1 = x + 1 := by
  rw [show Int32.ofInt 1 = (1 : Int32) from by decide +kernel]
theorem bw_nx {x : Int32} {N k : Nat} (h : x = nI (N - (k + 1))) (hk : k + 1 ≤ N) : x + 1 = nI (N - k) := by
  rw [h, nI_1, show N - (k + 1) + 1 = N - k by omega]
theorem bw_ld (hexec : p.tables.exec = Jvm.exec) (hb : c.code = cc) {ws : va_W} {a : Nat} (hK : va_K D cl tys s) (hP : va_P D cl ws H) (q0 t0 : Nat) {cA : ClassId} {n : Nat} {f : Nat → Int32} (ha : ws[q0]? = some (a, .inl (cA, n, .inl f))) (ht : tys[t0]? = some (cA, .int)) {i : Int32} (j : Nat) (hj : i.toNatClampNeg = j) (hin : vp_in i n) (hdg : decode cc pc = .ok (.iaload, 1))
    (kk : W p l e R s m args below meth c H locs cells slots Q (F0 m (pc + 1) ls (.int (f j) :: rest))) : W p l e R s m args below meth c H locs cells slots Q (F0 m pc ls (.int i :: .ref a :: rest)) := by
  subst hj
  exact va_iald hexec hb hK hP q0 t0 ha ht hin hdg kk
end BWA
def bw_pr (D : va_G) (cl : List vw_C) (tys : List (ClassId × FieldType)) (w : va_W) (sz : Nat) (Ex : State → Prop) (U : State) : Prop := U.heap.size = sz ∧ va_P D cl w U.heap ∧ va_K D cl tys U ∧ va_D (fun _ => True) w ∧ Ex U
def bw_at {S : Type} (D : va_G) (cl : List vw_C) (tys : List (ClassId × FieldType)) (wf : S → va_W) (A : Nat → Prop) (u : S) (t : State) : Prop := va_P D cl (wf u) t.heap ∧ va_K D cl tys t ∧ va_D A (wf u)
section BWB
variable {p : Program} {l : Launch} {e : Env} {R : Room} {s : State} {m : MethodId} {args : Array Value} {below : List Frame} {meth : Method} {c : Code} {H : Heap} {locs : List Loc} {cells slots : Nat} {Q : State → Prop}
variable {cc : ByteArray} {pc : Nat} {ls : Array Slot} {rest : List Value} {D : va_G} {cl : List vw_C} {A : Nat → Prop} {H0 : Heap} {tys : List (ClassId × FieldType)}
theorem bw_right {α : Type} {wr w : List α} {k : Nat} {q : α} (h : w[k]? = some q) : (wr ++ w)[wr.length + k]? = some q := by
  rw [List.getElem?_append_right (by omega), Nat.add_sub_cancel_left]
  exact h
theorem bw_left {α : Type} {wr w : List α} {k : Nat} {q : α} (h : wr[k]? = some q) : (wr ++ w)[k]? = some q := by
  rw [List.getElem?_append_left (List.getElem?_eq_some_iff.mp h).1]
  exact h
theorem bw_free {wr w : va_W} (hD : va_D A (wr ++ w)) (hS : va_S A H0 H locs) (hA : ∀ q, H0.size ≤ q → A q) : ∀ q, va_A w H.size q → A q := by
  intro q h
  rcases h with ⟨k, e1, h⟩ | h
  · exact hD.2 _ (q, e1) (bw_right h)
  · exact hA q (Nat.le_trans hS.1 h)
theorem bw_join {wr w w1 : va_W} {H1 : Heap} (hP : va_P D cl (wr ++ w) H) (hD : va_D A (wr ++ w)) (hk : ∀ q : Nat, q < H.size → ¬ va_A w H.size q → H1[q]? = H[q]?) (hF : ∀ q, va_A w H.size q → A q) (hP1 : va_P D cl w1 H1) (hD1 : va_D (va_A w H.size) w1) : va_P D cl (wr ++ w1) H1 ∧ va_D A (wr ++ w1) := by
  have ap : ∀ (k : Nat) (q : Nat × va_E), wr[k]? = some q → q.1 < H.size ∧ ¬ va_A w H.size q.1 := by
    intro k q hq
    have hl := (hP k q (bw_left hq)).lt
    refine ⟨hl, fun h => ?_⟩
    rcases h with ⟨j, e1, h⟩ | h
    · have h3 := hD.1 _ _ q (q.1, e1) (bw_left hq) (bw_right h) rfl
      have h4 := (List.getElem?_eq_some_iff.mp hq).1
      omega
    · omega
  refine ⟨va_P.app (fun k q hq => (hP k q (bw_left hq)).kept (hk q.1 (ap k q hq).1 (ap k q hq).2)) hP1, va_D.app ⟨fun i j x y hi hj hxy => hD.1 i j x y (bw_left hi) (bw_left hj) hxy, fun k q hq => hD.2 k q (bw_left hq)⟩ (hD1.weaken (fun k q _ h => hF q.1 h)) (fun i j x y hx hy hxy => ?_)⟩
  exact (ap i x hx).2 (by rw [hxy]; exact hD1.2 j y hy)
theorem bw_bl {av : List Value} {w : va_W} {sz : Nat} {Ex : State → Prop} (hE : ∀ (U : State) (g : JFrame) (mk : MethodId) (a : Array Value), Ex U → Ex (U.calling g mk a)) : FrameBlind (va_Pc av (bw_pr D cl tys w sz Ex)) := by
  intro a U g mk q
  obtain ⟨q0, q1, qP, qK, qD, qE⟩ := q
  exact ⟨q0, q1, qP, va_K.moved (u := U) (U := U.calling g mk a) (Vm.Alike.refl U.vm) qK, qD, hE U g mk a qE⟩
theorem bw_pw {wr w : va_W} (hP : va_P D cl (wr ++ w) H) : va_P D cl w H := fun _ _ hk => hP _ _ (bw_right hk)
theorem bw_dw {wr w : va_W} (hD : va_D A (wr ++ w)) : va_D (fun _ => True) w := ⟨fun i j x y hi hj hxy => by
  have h := hD.1 _ _ x y (bw_right hi) (bw_right hj) hxy
  omega, fun _ _ _ => trivial⟩
theorem bw_Vi {S : Type} {wf : S → va_W} {post : Int32 → S → Prop} {w wr : va_W} {Ex : State → Prop} {y : MethodName} {bytes : ByteArray} {maxL nL n index : Nat} {ret : Option FieldType} {ws Ts : List Cond} {rm : Room} {own C : String} {b : Nat} {As st0 : List Value}
    (Sx : CallFix p m c cc nL s args Ts own) (hM : Met l y ws rm (va_Pc (Value.ref b :: As) (bw_pr D cl tys w H.size Ex)) (va_Qi post (bw_at D cl tys wf (va_A w H.size)) (va_A w H.size)) 0 0 (va_A w H.size)) (cw : CallW R s args own C index y bytes maxL ret ws rm 0 0 n)
    (hK : va_K D cl tys s) (hP : va_P D cl (wr ++ w) H) (hD : va_D A (wr ++ w)) (hS : va_S A H0 H locs) (hA : ∀ q, H0.size ≤ q → A q)
    (hbl : ∀ (U : State) (g : JFrame) (mk : MethodId) (a : Array Value), Ex U → Ex (U.calling g mk a)) (hEx : ∀ U : State, U.heap = H → s.WarmedH U.vm → Ex U)
    {ci N : Nat} {T : u_T} {fs : List Value} (q0 : Nat) (he : w[q0]? = some (b, .inr (ci, fs))) (hc : cl[ci]? = some (C, T, N))
    (hn : As.length = n) (hsize : ls.size = nL) (hst : st0 = As.reverse ++ Value.ref b :: rest) (hW : (rest.map fun v => v.category).sum ≤ 8) (hdg : decode cc pc = .ok (.invokevirtual index, 3)) (hf : cells ≤ R.cells ∧ slots ≤ R.slots)
    (kk : ∀ (r : Int32) (u : S) (H1 : Heap) (locs1 : List Loc), post r u → va_P D cl (wr ++ wf u) H1 → va_D A (wr ++ wf u) → va_S A H0 H1 locs1 → W p l e R s m args below meth c H1 locs1 cells slots Q (F0 m (pc + 3) ls (.int r :: rest))) : W p l e R s m args below meth c H locs cells slots Q (F0 m pc ls st0) := by
  subst hst
  have hF := bw_free (wr := wr) hD hS hA
  refine va_calli (va_runV (b := b) (As := As) (rest := rest) Sx hM cw ⟨bw_bl hbl, va_recv hK (bw_pw hP) hc he, fun U hU hW1 => ⟨rfl, by rw [hU], by rw [hU]; exact bw_pw hP, va_K.moved hW1.alike hK, bw_dw hD, hEx U hU hW1⟩⟩ rfl hn hsize rfl (lv_room hW) hdg hf) hS (fun q _ h => hF q h) hF (fun r u t H1 locs1 ht hvm hpost hB hz hk hS1 => ?_)
  obtain ⟨hP1, hK1, hD1⟩ := hB
  rw [ht] at hP1
  obtain ⟨hP2, hD2⟩ := bw_join hP hD hk hF hP1 hD1
  exact kk r u H1 locs1 hpost hP2 hD2 hS1
theorem bw_Vv {S : Type} {wf : S → va_W} {post : S → Prop} {w wr : va_W} {Ex : State → Prop} {y : MethodName} {bytes : ByteArray} {maxL nL n index : Nat} {ret : Option FieldType} {ws Ts : List Cond} {rm : Room} {own C : String} {b : Nat} {As st0 : List Value}
    (Sx : CallFix p m c cc nL s args Ts own) (hM : Met l y ws rm (va_Pc (Value.ref b :: As) (bw_pr D cl tys w H.size Ex)) (va_Qv post (bw_at D cl tys wf (va_A w H.size)) (va_A w H.size)) 0 0 (va_A w H.size)) (cw : CallW R s args own C index y bytes maxL ret ws rm 0 0 n)
    (hK : va_K D cl tys s) (hP : va_P D cl (wr ++ w) H) (hD : va_D A (wr ++ w)) (hS : va_S A H0 H locs) (hA : ∀ q, H0.size ≤ q → A q)
    (hbl : ∀ (U : State) (g : JFrame) (mk : MethodId) (a : Array Value), Ex U → Ex (U.calling g mk a)) (hEx : ∀ U : State, U.heap = H → s.WarmedH U.vm → Ex U)
    {ci N : Nat} {T : u_T} {fs : List Value} (q0 : Nat) (he : w[q0]? = some (b, .inr (ci, fs))) (hc : cl[ci]? = some (C, T, N))
    (hn : As.length = n) (hsize : ls.size = nL) (hst : st0 = As.reverse ++ Value.ref b :: rest) (hW : (rest.map fun v => v.category).sum ≤ 8) (hdg : decode cc pc = .ok (.invokevirtual index, 3)) (hf : cells ≤ R.cells ∧ slots ≤ R.slots)
    (kk : ∀ (u : S) (H1 : Heap) (locs1 : List Loc), post u → va_P D cl (wr ++ wf u) H1 → va_D A (wr ++ wf u) → va_S A H0 H1 locs1 → W p l e R s m args below meth c H1 locs1 cells slots Q (F0 m (pc + 3) ls rest)) : W p l e R s m args below meth c H locs cells slots Q (F0 m pc ls st0) := by
  subst hst
  have hF := bw_free (wr := wr) hD hS hA
  refine va_callv (va_runV (b := b) (As := As) (rest := rest) Sx hM cw ⟨bw_bl hbl, va_recv hK (bw_pw hP) hc he, fun U hU hW1 => ⟨rfl, by rw [hU], by rw [hU]; exact bw_pw hP, va_K.moved hW1.alike hK, bw_dw hD, hEx U hU hW1⟩⟩ rfl hn hsize rfl (lv_room hW) hdg hf) hS (fun q _ h => hF q h) hF (fun u t H1 locs1 ht hvm hpost hB hz hk hS1 => ?_)
  obtain ⟨hP1, hK1, hD1⟩ := hB
  rw [ht] at hP1
  obtain ⟨hP2, hD2⟩ := bw_join hP hD hk hF hP1 hD1
  exact kk u H1 locs1 hpost hP2 hD2 hS1
theorem bw_Si {v : Int32} {w : va_W} {y : MethodName} {bytes : ByteArray} {maxL nL n index : Nat} {ret : Option FieldType} {ws Ts : List Cond} {rm : Room} {own : String} {As st0 : List Value}
    (Sx : CallFix p m c cc nL s args Ts own) (hM : Met l y ws rm (va_Pc As (fun U => U.heap.size = H.size)) (va_Qi (fun r (_ : Unit) => r = v) (fun _ _ => True) (va_A [] H.size)) 0 0 (va_A [] H.size)) (cw : CallB R s args own index y bytes maxL ret ws rm 0 0 n ∧ (Cond.static y).before args s = true)
    (hP : va_P D cl w H) (hS : va_S A H0 H locs) (hA : ∀ q, H0.size ≤ q → A q)
    (hn : As.length = n) (hsize : ls.size = nL) (hst : st0 = As.reverse ++ rest) (hW : (rest.map fun v => v.category).sum ≤ 8) (hdg : decode cc pc = .ok (.invokestatic index, 3)) (hf : cells ≤ R.cells ∧ slots ≤ R.slots)
    (kk : ∀ (H1 : Heap) (locs1 : List Loc), va_P D cl w H1 → va_S A H0 H1 locs1 → W p l e R s m args below meth c H1 locs1 cells slots Q (F0 m (pc + 3) ls (.int v :: rest))) : W p l e R s m args below meth c H locs cells slots Q (F0 m pc ls st0) := by
  subst hst
  have hN : ∀ q : Nat, va_A [] H.size q → H.size ≤ q := fun q h => by
    rcases h with ⟨k, e1, h⟩ | h
    · simp at h
    · exact h
  have hF : ∀ q, va_A [] H.size q → A q := fun q h => hA q (Nat.le_trans hS.1 (hN q h))
  refine va_calli (va_runS (As := As) (rest := rest) Sx hM cw ⟨fun a U g mk q => q, fun U hU hW1 => ⟨rfl, by rw [hU]⟩⟩ rfl hn hsize rfl (lv_room hW) hdg hf) hS (fun q _ h => hF q h) hF (fun r u t H1 locs1 ht hvm hpost hB hz hk hS1 => ?_)
  subst hpost
  exact kk H1 locs1 (hP.kept (fun k q hq => hk q.1 (hP k q hq).lt (fun h => absurd (hN q.1 h) (Nat.not_le.mpr (hP k q hq).lt)))) hS1
end BWB
def tPL (j : Nat) : Int32 := ([50, 0, 0, 1, 340, 1250, -400, -300, 0, 50] : List Int32).getD j 0
def tPG (j : Nat) : Int32 := ([600, 6000, 2000, 600, 390, 1600, 0, 200, 200, 500] : List Int32).getD j 0
def tSL (j : Nat) : Int32 := ([-700, -200, 0, 0, 0, 0] : List Int32).getD j 0
def tSG (j : Nat) : Int32 := ([500, 800, 600, 3000, 1, 1] : List Int32).getD j 0
def tb_T (U : State) (H : Heap) (A : Nat → Prop) (nm : String) (N : Nat) (f : Nat → Int32) : Prop := ∃ t : Nat, va_Z RX0 nm "[I" (.ref t) A U H ∧ va_T .int t N (fun j => .int (f j)) A U H
def tbX (A : Nat → Prop) (U : State) : Prop := tb_T U U.heap A "PARAMETER_LEAST" 10 tPL ∧ tb_T U U.heap A "PARAMETER_GREATEST" 10 tPG ∧ tb_T U U.heap A "SENSOR_LEAST" 6 tSL ∧ tb_T U U.heap A "SENSOR_GREATEST" 6 tSG
theorem tb_mv {s U : State} {H : Heap} {A A1 : Nat → Prop} {locs : List Loc} {nm : String} {N : Nat} {f : Nat → Int32} (h : tb_T s s.heap A nm N f) (hS : va_S A s.heap H locs) (hF : ∀ q, A1 q → A q) (hvm : s.vm.Alike U.vm) (hU : U.heap = H) : tb_T U U.heap A1 nm N f := by
  obtain ⟨t, h1, h2⟩ := h
  rw [hU]
  exact ⟨t, ((h1.kept hS.2.1).narrow hF).moved hvm, ((h2.kept hS.2.1).narrow hF).moved hvm⟩
theorem tbX_to {s : State} {H : Heap} {A A1 : Nat → Prop} {locs : List Loc} (h : tbX A s) (hS : va_S A s.heap H locs) (hF : ∀ q, A1 q → A q) : ∀ U : State, U.heap = H → s.WarmedH U.vm → tbX A1 U := fun _ hU hW => ⟨tb_mv h.1 hS hF hW.alike hU, tb_mv h.2.1 hS hF hW.alike hU, tb_mv h.2.2.1 hS hF hW.alike hU, tb_mv h.2.2.2 hS hF hW.alike hU⟩
theorem tbX_bl {A : Nat → Prop} (U : State) (g : JFrame) (mk : MethodId) (a : Array Value) (h : tbX A U) : tbX A (U.calling g mk a) := by
  have hS : va_S A U.heap U.heap [] := va_S.rf
  have hvm : U.vm.Alike (U.calling g mk a).vm := Vm.Alike.refl U.vm
  exact ⟨tb_mv h.1 hS (fun _ h => h) hvm rfl, tb_mv h.2.1 hS (fun _ h => h) hvm rfl, tb_mv h.2.2.1 hS (fun _ h => h) hvm rfl, tb_mv h.2.2.2 hS (fun _ h => h) hvm rfl⟩
end
section
section BWC
variable {p : Program} {l : Launch} {e : Env} {R : Room} {s : State} {m : MethodId} {args : Array Value} {below : List Frame} {meth : Method} {c : Code} {H : Heap} {locs : List Loc} {cells slots : Nat} {Q : State → Prop}
variable {cc : ByteArray} {pc : Nat} {ls : Array Slot} {rest : List Value} {D : va_G} {cl : List vw_C} {A : Nat → Prop} {H0 : Heap} {tys : List (ClassId × FieldType)}
theorem bw_swP {w1 w2 : va_W} (h : va_P D cl (w1 ++ w2) H) : va_P D cl (w2 ++ w1) H := va_P.app (bw_pw h) (fun _ _ hk => h _ _ (bw_left hk))
theorem bw_swD {w1 w2 : va_W} (h : va_D A (w1 ++ w2)) : va_D A (w2 ++ w1) := by
  refine va_D.app ⟨fun i j x y hi hj hxy => ?_, fun k q hk => h.2 _ _ (bw_right hk)⟩ ⟨fun i j x y hi hj hxy => h.1 i j x y (bw_left hi) (bw_left hj) hxy, fun k q hk => h.2 _ _ (bw_left hk)⟩ (fun i j x y hi hj hxy => ?_)
  · have h1 := h.1 _ _ x y (bw_right hi) (bw_right hj) hxy
    omega
  · have h1 := h.1 _ _ x y (bw_right hi) (bw_left hj) hxy
    have h2 := (List.getElem?_eq_some_iff.mp hj).1
    omega
theorem bw_cI {cI cA : ClassId} (h : va_K D cl ([(cI, .int)] ++ [(cA, .int)]) s) : cA = cI := by
  have h1 : s.vm.findClass ("[" ++ FieldType.int.toString) = some cI := (h.2 0 _ rfl).2
  have h2 : s.vm.findClass ("[" ++ FieldType.int.toString) = some cA := (h.2 1 _ rfl).2
  exact Option.some.inj (h2.symm.trans h1)
def te_T (U : State) (H : Heap) (A : Nat → Prop) (nm : String) (N : Nat) (f : Nat → Int32) (cI : ClassId) : Prop := ∃ (t : Nat) (cell : Cell), va_Z RX0 nm "[I" (.ref t) A U H ∧ H[t]? = some cell ∧ cell.cls = cI ∧ cell.vm ≠ .unknown ∧ (∀ k, cell.vm ≠ .statics k) ∧ cell.slots = (arrV cI N (fun j => .int (f j))).slots ∧ ¬ A t
theorem bw_clone (hexec : p.tables.exec = Jvm.exec) (hb : c.code = cc) (hml : c.maxLocals = ls.size) {own : String} {index : Nat} (hown : s.vm.findClass own = some m.cls)
    (hlink : (Cond.methodLink own index ⟨"[I", "clone", "()Ljava/lang/Object;"⟩).before args s = true) (hsame : (Cond.sameMethod "[I" "java/lang/Object" "clone" "()Ljava/lang/Object;").before args s = true)
    (hnat : (Cond.native ⟨"java/lang/Object", "clone", "()Ljava/lang/Object;"⟩).before args s = true) (hinst : (Cond.instanceMethod ⟨"java/lang/Object", "clone", "()Ljava/lang/Object;"⟩).before args s = true)
    (hsel : (Cond.selects "[I" ⟨"[I", "clone", "()Ljava/lang/Object;"⟩ ⟨"java/lang/Object", "clone", "()Ljava/lang/Object;"⟩).before args s = true) (hcl : va_Nw (.castable "[I" "java/lang/Cloneable") s)
    {ws : va_W} (hK : va_K D cl tys s) (hP : va_P D cl ws H) (hD : va_D A ws) (hS : va_S A s.heap H locs) (hA : ∀ q, s.heap.size ≤ q → A q) (t0 : Nat) {cI : ClassId} (ht : tys[t0]? = some (cI, .int))
    {t N : Nat} {f : Nat → Int32} {cell : Cell} (h1 : s.heap[t]? = some cell) (h2 : cell.cls = cI) (h3 : cell.vm ≠ .unknown) (h4 : ∀ k, cell.vm ≠ .statics k) (h5 : cell.slots = (arrV cI N (fun j => .int (f j))).slots) (h6 : ¬ A t)
    (hframes : 1 ≤ R.frames) (hlocals : (rest.map fun v => v.category).sum + 14 ≤ R.locals) (hcells : cells + 1 ≤ R.cells) (hslots : slots + N ≤ R.slots) (hdg : decode cc pc = .ok (.invokevirtual index, 3))
    (kk : ∀ (q : Nat) (H1 : Heap), va_P D cl (ws ++ [(q, .inl (cI, N, .inl f))]) H1 → va_D A (ws ++ [(q, .inl (cI, N, .inl f))]) → va_S A s.heap H1 locs →
      W p l e R s m args below meth c H1 locs (cells + 1) (slots + N) Q (F0 m (pc + 3) ls (.ref q :: rest))) : W p l e R s m args below meth c H locs cells slots Q (F0 m pc ls (.ref t :: rest)) := by
  have hnm : s.vm.findClass "[I" = some cI := va_nm_int (hK.2 t0 _ ht).2
  have hsz : cell.slots.size = N := by rw [h5]; exact arrV_size _ _ _
  have hcellE : ({ cls := cell.cls, slots := cell.slots } : Cell) = vp_cell cI (N, .inl f) := by rw [h2, h5]; rfl
  obtain ⟨c0, t0', f1, f2, f3⟩ := Cond.castable_spec (va_Nw.use (A := args) rfl hcl)
  cases hnm.symm.trans f1
  intro T hT X
  have hcellT : T.heap[t]? = some cell := by rw [hT, hS.2.1 t (Array.getElem?_eq_some_iff.mp h1).1 h6]; exact h1
  obtain ⟨-, kA, hkA, comp, hkind⟩ := State.isArrayOf_alike X.warmed.alike ((hK.2 t0 _ ht).1 0 (fun _ => .null))
  obtain ⟨-, kS, hkS, compS, hkindS⟩ := (hK.2 t0 _ ht).1 0 (fun _ => .null)
  obtain ⟨vm', X', st⟩ := X.cloneArray hexec hown hlink hsame hnat hinst hsel (a := t) (cell := cell) hcellT h4 h3 (by rw [h2]; exact hnm) f2 (by rw [h2]; exact f3)
    (fun i v hv => by
      rw [h2]
      have hk' : T.vm.classes[cI]? = some kA := hkA
      have hfit : fits .int v = true := va_fit (cA := cI) (n := N) (F := fun j => .int (f j)) (ty := .int) (fun _ _ => rfl) i v (by rw [← h5]; exact hv)
      simpa [State.fitsSlot, State.slotType?, hk', hkind] using hfit)
    (g := F0 m pc ls (.ref t :: rest)) rfl (by rw [hml]) rfl (by rw [hb]; exact hdg) hframes (by show 2 * 0 + _ + 14 ≤ _; omega) hcells (by rw [hsz]; exact hslots) (hloader := by rw [h2]; exact Vm.clonesLoader_of_array hkS hkindS)
  rw [hcellE, hsz] at X'
  generalize hH1 : H.push (vp_cell cI (N, .inl f)) = H1
  have z1 : H1.size = H.size + 1 := by rw [← hH1, Array.size_push]
  have e1 : H1[H.size]? = some (vp_cell cI (N, .inl f)) := by rw [← hH1, Array.getElem?_push_size]
  have o1 : ∀ q : Nat, q < H.size → H1[q]? = H[q]? := fun q hq => by rw [← hH1, Array.getElem?_push, if_neg (Nat.ne_of_lt hq)]
  have hk : ∀ (k : Nat) (y : Nat × va_E), ws[k]? = some y → H1[y.1]? = H[y.1]? := fun k y hy => o1 y.1 ((hP k y hy).lt)
  obtain ⟨tt, b1, b2⟩ := kk H.size H1 ((hP.kept hk).app (fun k y hy => by
      have hz : k < 1 := (List.getElem?_eq_some_iff.mp hy).1
      rw [show k = 0 by omega] at hy
      cases hy
      exact e1)) (hD.push hP rfl (hA _ hS.1)) ⟨Nat.le_trans hS.1 (by omega), fun y g1 g2 => (o1 y (Nat.lt_of_lt_of_le g1 hS.1)).trans (hS.2.1 y g1 g2), hS.2.2⟩
    ((T.setVm vm').pushCell (vp_cell cI (N, .inl f))) (by rw [← hH1, ← hT]; rfl) X'
  refine ⟨tt, st tt ?_, b2⟩
  rw [hcellE, hT]
  exact b1
end BWC
def tPF (j : Nat) : Int32 := ([300, 0, 1000, 240, 370, 1400, -200, 100, 50, 300] : List Int32).getD j 0
def tSF (j : Nat) : Int32 := ([0, 100, 370, 1400, 0, 0] : List Int32).getD j 0
def tiX (A : Nat → Prop) (cI : ClassId) (U : State) : Prop := te_T U U.heap A "PARAMETER_AT_FIRST" 10 tPF cI ∧ te_T U U.heap A "SENSOR_AT_FIRST" 6 tSF cI ∧ va_Nw (.castable "[I" "java/lang/Cloneable") U
def sX_init : SX := (0, 0, 0, 0, (-1), 0, 0, 0, 0, 0, 0, 0, 0, 0, tPF, tSF, tSF, fun _ => 0)
end
section
def bX_isParameter_14  : Int32 := 0
def bX_isParameter_10  : Int32 := 1
def bX_isParameter_4 (x0 : Int32) : Int32 := if 10 ≤ x0 then bX_isParameter_14 else bX_isParameter_10
def bX_isParameter_0 (x0 : Int32) : Int32 := if x0 < 0 then bX_isParameter_14 else bX_isParameter_4 x0
def sX_isParameter (k1 : Int32) : Int32 := bX_isParameter_0 k1

def bX_isOutside_14  : Int32 := 0
def bX_isOutside_10  : Int32 := 1
def bX_isOutside_5 (x0 : Int32) (x2 : Int32) : Int32 := if x0 ≤ x2 then bX_isOutside_14 else bX_isOutside_10
def bX_isOutside_0 (x0 : Int32) (x1 : Int32) (x2 : Int32) : Int32 := if x0 < x1 then bX_isOutside_10 else bX_isOutside_5 x0 x2
def sX_isOutside (k1 k2 k3 : Int32) : Int32 := bX_isOutside_0 k1 k2 k3

def bX_set_33 (g4 g5 g6 g7 g8 g9 g10 g11 g12 g13 g14 g15 g16 g17 : Int32) (r0 r1 r2 r3 : Nat → Int32) (x1 : Int32) (x2 : Int32) : Int32 × SX := (1, (g4, g5, g6, g7, g8, g9, g10, g11, g12, g13, g14, g15, g16, g17, upd r0 x1.toNatClampNeg x2, r1, r2, r3))
def bX_set_31 (g4 g5 g6 g7 g8 g9 g10 g11 g12 g13 g14 g15 g16 g17 : Int32) (r0 r1 r2 r3 : Nat → Int32) : Int32 × SX := (0, (g4, g5, g6, g7, g8, g9, g10, g11, g12, g13, g14, g15, g16, g17, r0, r1, r2, r3))
def bX_set_14 (g4 g5 g6 g7 g8 g9 g10 g11 g12 g13 g14 g15 g16 g17 : Int32) (r0 r1 r2 r3 : Nat → Int32) (x1 : Int32) (x2 : Int32) : Int32 × SX := if (sX_isOutside x2 (tPL x1.toNatClampNeg) (tPG x1.toNatClampNeg)) = 0 then bX_set_33 g4 g5 g6 g7 g8 g9 g10 g11 g12 g13 g14 g15 g16 g17 r0 r1 r2 r3 x1 x2 else bX_set_31 g4 g5 g6 g7 g8 g9 g10 g11 g12 g13 g14 g15 g16 g17 r0 r1 r2 r3
def bX_set_7 (g4 g5 g6 g7 g8 g9 g10 g11 g12 g13 g14 g15 g16 g17 : Int32) (r0 r1 r2 r3 : Nat → Int32) (x1 : Int32) (x2 : Int32) : Int32 × SX := if g4 = 0 then bX_set_14 g4 g5 g6 g7 g8 g9 g10 g11 g12 g13 g14 g15 g16 g17 r0 r1 r2 r3 x1 x2 else bX_set_31 g4 g5 g6 g7 g8 g9 g10 g11 g12 g13 g14 g15 g16 g17 r0 r1 r2 r3
def bX_set_0 (g4 g5 g6 g7 g8 g9 g10 g11 g12 g13 g14 g15 g16 g17 : Int32) (r0 r1 r2 r3 : Nat → Int32) (x1 : Int32) (x2 : Int32) : Int32 × SX := if (sX_isParameter x1) = 0 then bX_set_31 g4 g5 g6 g7 g8 g9 g10 g11 g12 g13 g14 g15 g16 g17 r0 r1 r2 r3 else bX_set_7 g4 g5 g6 g7 g8 g9 g10 g11 g12 g13 g14 g15 g16 g17 r0 r1 r2 r3 x1 x2
def sX_set (g4 g5 g6 g7 g8 g9 g10 g11 g12 g13 g14 g15 g16 g17 : Int32) (r0 r1 r2 r3 : Nat → Int32) (k1 k2 : Int32) : Int32 × SX := bX_set_0 g4 g5 g6 g7 g8 g9 g10 g11 g12 g13 g14 g15 g16 g17 r0 r1 r2 r3 k1 k2

def bX_parameter_16 (g4 g5 g6 g7 g8 g9 g10 g11 g12 g13 g14 g15 g16 g17 : Int32) (r0 r1 r2 r3 : Nat → Int32) : Int32 := 0
def bX_parameter_7 (g4 g5 g6 g7 g8 g9 g10 g11 g12 g13 g14 g15 g16 g17 : Int32) (r0 r1 r2 r3 : Nat → Int32) (x1 : Int32) : Int32 := r0 x1.toNatClampNeg
def bX_parameter_0 (g4 g5 g6 g7 g8 g9 g10 g11 g12 g13 g14 g15 g16 g17 : Int32) (r0 r1 r2 r3 : Nat → Int32) (x1 : Int32) : Int32 := if (sX_isParameter x1) = 0 then bX_parameter_16 g4 g5 g6 g7 g8 g9 g10 g11 g12 g13 g14 g15 g16 g17 r0 r1 r2 r3 else bX_parameter_7 g4 g5 g6 g7 g8 g9 g10 g11 g12 g13 g14 g15 g16 g17 r0 r1 r2 r3 x1
def sX_parameter (g4 g5 g6 g7 g8 g9 g10 g11 g12 g13 g14 g15 g16 g17 : Int32) (r0 r1 r2 r3 : Nat → Int32) (k1 : Int32) : Int32 := bX_parameter_0 g4 g5 g6 g7 g8 g9 g10 g11 g12 g13 g14 g15 g16 g17 r0 r1 r2 r3 k1

def bX_isSensor_14  : Int32 := 0
def bX_isSensor_10  : Int32 := 1
def bX_isSensor_4 (x0 : Int32) : Int32 := if 6 ≤ x0 then bX_isSensor_14 else bX_isSensor_10
def bX_isSensor_0 (x0 : Int32) : Int32 := if x0 < 0 then bX_isSensor_14 else bX_isSensor_4 x0
def sX_isSensor (k1 : Int32) : Int32 := bX_isSensor_0 k1

def bX_sense_9 (g4 g5 g6 g7 g8 g9 g10 g11 g12 g13 g14 g15 g16 g17 : Int32) (r0 r1 r2 r3 : Nat → Int32) (x1 : Int32) (x2 : Int32) : Int32 × SX := (1, (g4, g5, g6, g7, g8, g9, g10, g11, g12, g13, g14, g15, g16, g17, r0, upd r1 x1.toNatClampNeg x2, r2, r3))
def bX_sense_7 (g4 g5 g6 g7 g8 g9 g10 g11 g12 g13 g14 g15 g16 g17 : Int32) (r0 r1 r2 r3 : Nat → Int32) : Int32 × SX := (0, (g4, g5, g6, g7, g8, g9, g10, g11, g12, g13, g14, g15, g16, g17, r0, r1, r2, r3))
def bX_sense_0 (g4 g5 g6 g7 g8 g9 g10 g11 g12 g13 g14 g15 g16 g17 : Int32) (r0 r1 r2 r3 : Nat → Int32) (x1 : Int32) (x2 : Int32) : Int32 × SX := if (sX_isSensor x1) = 0 then bX_sense_7 g4 g5 g6 g7 g8 g9 g10 g11 g12 g13 g14 g15 g16 g17 r0 r1 r2 r3 else bX_sense_9 g4 g5 g6 g7 g8 g9 g10 g11 g12 g13 g14 g15 g16 g17 r0 r1 r2 r3 x1 x2
def sX_sense (g4 g5 g6 g7 g8 g9 g10 g11 g12 g13 g14 g15 g16 g17 : Int32) (r0 r1 r2 r3 : Nat → Int32) (k1 k2 : Int32) : Int32 × SX := bX_sense_0 g4 g5 g6 g7 g8 g9 g10 g11 g12 g13 g14 g15 g16 g17 r0 r1 r2 r3 k1 k2

def bX_conditioned_16 (g4 g5 g6 g7 g8 g9 g10 g11 g12 g13 g14 g15 g16 g17 : Int32) (r0 r1 r2 r3 : Nat → Int32) : Int32 := 0
def bX_conditioned_7 (g4 g5 g6 g7 g8 g9 g10 g11 g12 g13 g14 g15 g16 g17 : Int32) (r0 r1 r2 r3 : Nat → Int32) (x1 : Int32) : Int32 := r2 x1.toNatClampNeg
def bX_conditioned_0 (g4 g5 g6 g7 g8 g9 g10 g11 g12 g13 g14 g15 g16 g17 : Int32) (r0 r1 r2 r3 : Nat → Int32) (x1 : Int32) : Int32 := if (sX_isSensor x1) = 0 then bX_conditioned_16 g4 g5 g6 g7 g8 g9 g10 g11 g12 g13 g14 g15 g16 g17 r0 r1 r2 r3 else bX_conditioned_7 g4 g5 g6 g7 g8 g9 g10 g11 g12 g13 g14 g15 g16 g17 r0 r1 r2 r3 x1
def sX_conditioned (g4 g5 g6 g7 g8 g9 g10 g11 g12 g13 g14 g15 g16 g17 : Int32) (r0 r1 r2 r3 : Nat → Int32) (k1 : Int32) : Int32 := bX_conditioned_0 g4 g5 g6 g7 g8 g9 g10 g11 g12 g13 g14 g15 g16 g17 r0 r1 r2 r3 k1

def bX_faulty_21 (g4 g5 g6 g7 g8 g9 g10 g11 g12 g13 g14 g15 g16 g17 : Int32) (r0 r1 r2 r3 : Nat → Int32) : Int32 := 0
def bX_faulty_17 (g4 g5 g6 g7 g8 g9 g10 g11 g12 g13 g14 g15 g16 g17 : Int32) (r0 r1 r2 r3 : Nat → Int32) : Int32 := 1
def bX_faulty_7 (g4 g5 g6 g7 g8 g9 g10 g11 g12 g13 g14 g15 g16 g17 : Int32) (r0 r1 r2 r3 : Nat → Int32) (x1 : Int32) : Int32 := if (r3 x1.toNatClampNeg) < 3 then bX_faulty_21 g4 g5 g6 g7 g8 g9 g10 g11 g12 g13 g14 g15 g16 g17 r0 r1 r2 r3 else bX_faulty_17 g4 g5 g6 g7 g8 g9 g10 g11 g12 g13 g14 g15 g16 g17 r0 r1 r2 r3
def bX_faulty_0 (g4 g5 g6 g7 g8 g9 g10 g11 g12 g13 g14 g15 g16 g17 : Int32) (r0 r1 r2 r3 : Nat → Int32) (x1 : Int32) : Int32 := if (sX_isSensor x1) = 0 then bX_faulty_21 g4 g5 g6 g7 g8 g9 g10 g11 g12 g13 g14 g15 g16 g17 r0 r1 r2 r3 else bX_faulty_7 g4 g5 g6 g7 g8 g9 g10 g11 g12 g13 g14 g15 g16 g17 r0 r1 r2 r3 x1
def sX_faulty (g4 g5 g6 g7 g8 g9 g10 g11 g12 g13 g14 g15 g16 g17 : Int32) (r0 r1 r2 r3 : Nat → Int32) (k1 : Int32) : Int32 := bX_faulty_0 g4 g5 g6 g7 g8 g9 g10 g11 g12 g13 g14 g15 g16 g17 r0 r1 r2 r3 k1

def bX_areConsistent_69 (g4 g5 g6 g7 g8 g9 g10 g11 g12 g13 g14 g15 g16 g17 : Int32) (r0 r1 r2 r3 : Nat → Int32) : Int32 := 0
def bX_areConsistent_65 (g4 g5 g6 g7 g8 g9 g10 g11 g12 g13 g14 g15 g16 g17 : Int32) (r0 r1 r2 r3 : Nat → Int32) : Int32 := 1
def bX_areConsistent_40 (g4 g5 g6 g7 g8 g9 g10 g11 g12 g13 g14 g15 g16 g17 : Int32) (r0 r1 r2 r3 : Nat → Int32) : Int32 := if ((r0 2) * (r0 3)) < (60 * (r0 1)) then bX_areConsistent_69 g4 g5 g6 g7 g8 g9 g10 g11 g12 g13 g14 g15 g16 g17 r0 r1 r2 r3 else bX_areConsistent_65 g4 g5 g6 g7 g8 g9 g10 g11 g12 g13 g14 g15 g16 g17 r0 r1 r2 r3
def bX_areConsistent_20 (g4 g5 g6 g7 g8 g9 g10 g11 g12 g13 g14 g15 g16 g17 : Int32) (r0 r1 r2 r3 : Nat → Int32) : Int32 := if (r0 9) < ((r0 8) + 20) then bX_areConsistent_69 g4 g5 g6 g7 g8 g9 g10 g11 g12 g13 g14 g15 g16 g17 r0 r1 r2 r3 else bX_areConsistent_40 g4 g5 g6 g7 g8 g9 g10 g11 g12 g13 g14 g15 g16 g17 r0 r1 r2 r3
def bX_areConsistent_0 (g4 g5 g6 g7 g8 g9 g10 g11 g12 g13 g14 g15 g16 g17 : Int32) (r0 r1 r2 r3 : Nat → Int32) : Int32 := if (r0 7) < ((r0 6) + 20) then bX_areConsistent_69 g4 g5 g6 g7 g8 g9 g10 g11 g12 g13 g14 g15 g16 g17 r0 r1 r2 r3 else bX_areConsistent_20 g4 g5 g6 g7 g8 g9 g10 g11 g12 g13 g14 g15 g16 g17 r0 r1 r2 r3
def sX_areConsistent (g4 g5 g6 g7 g8 g9 g10 g11 g12 g13 g14 g15 g16 g17 : Int32) (r0 r1 r2 r3 : Nat → Int32) : Int32 := bX_areConsistent_0 g4 g5 g6 g7 g8 g9 g10 g11 g12 g13 g14 g15 g16 g17 r0 r1 r2 r3

def bX_mayLeavePhase_131 (g4 g5 g6 g7 g8 g9 g10 g11 g12 g13 g14 g15 g16 g17 : Int32) (r0 r1 r2 r3 : Nat → Int32) : Int32 := 1
def bX_mayLeavePhase_129 (g4 g5 g6 g7 g8 g9 g10 g11 g12 g13 g14 g15 g16 g17 : Int32) (r0 r1 r2 r3 : Nat → Int32) : Int32 := 0
def bX_mayLeavePhase_125 (g4 g5 g6 g7 g8 g9 g10 g11 g12 g13 g14 g15 g16 g17 : Int32) (r0 r1 r2 r3 : Nat → Int32) : Int32 := 1
def bX_mayLeavePhase_116 (g4 g5 g6 g7 g8 g9 g10 g11 g12 g13 g14 g15 g16 g17 : Int32) (r0 r1 r2 r3 : Nat → Int32) : Int32 := if g13 < 30 then bX_mayLeavePhase_129 g4 g5 g6 g7 g8 g9 g10 g11 g12 g13 g14 g15 g16 g17 r0 r1 r2 r3 else bX_mayLeavePhase_125 g4 g5 g6 g7 g8 g9 g10 g11 g12 g13 g14 g15 g16 g17 r0 r1 r2 r3
def bX_mayLeavePhase_114 (g4 g5 g6 g7 g8 g9 g10 g11 g12 g13 g14 g15 g16 g17 : Int32) (r0 r1 r2 r3 : Nat → Int32) : Int32 := 0
def bX_mayLeavePhase_110 (g4 g5 g6 g7 g8 g9 g10 g11 g12 g13 g14 g15 g16 g17 : Int32) (r0 r1 r2 r3 : Nat → Int32) : Int32 := 1
def bX_mayLeavePhase_101 (g4 g5 g6 g7 g8 g9 g10 g11 g12 g13 g14 g15 g16 g17 : Int32) (r0 r1 r2 r3 : Nat → Int32) : Int32 := if g13 < 50 then bX_mayLeavePhase_114 g4 g5 g6 g7 g8 g9 g10 g11 g12 g13 g14 g15 g16 g17 r0 r1 r2 r3 else bX_mayLeavePhase_110 g4 g5 g6 g7 g8 g9 g10 g11 g12 g13 g14 g15 g16 g17 r0 r1 r2 r3
def bX_mayLeavePhase_99 (g4 g5 g6 g7 g8 g9 g10 g11 g12 g13 g14 g15 g16 g17 : Int32) (r0 r1 r2 r3 : Nat → Int32) : Int32 := 0
def bX_mayLeavePhase_95 (g4 g5 g6 g7 g8 g9 g10 g11 g12 g13 g14 g15 g16 g17 : Int32) (r0 r1 r2 r3 : Nat → Int32) : Int32 := 1
def bX_mayLeavePhase_88 (g4 g5 g6 g7 g8 g9 g10 g11 g12 g13 g14 g15 g16 g17 : Int32) (r0 r1 r2 r3 : Nat → Int32) : Int32 := if g5 = 0 then bX_mayLeavePhase_95 g4 g5 g6 g7 g8 g9 g10 g11 g12 g13 g14 g15 g16 g17 r0 r1 r2 r3 else bX_mayLeavePhase_99 g4 g5 g6 g7 g8 g9 g10 g11 g12 g13 g14 g15 g16 g17 r0 r1 r2 r3
def bX_mayLeavePhase_86 (g4 g5 g6 g7 g8 g9 g10 g11 g12 g13 g14 g15 g16 g17 : Int32) (r0 r1 r2 r3 : Nat → Int32) : Int32 := 0
def bX_mayLeavePhase_82 (g4 g5 g6 g7 g8 g9 g10 g11 g12 g13 g14 g15 g16 g17 : Int32) (r0 r1 r2 r3 : Nat → Int32) : Int32 := 1
def bX_mayLeavePhase_73 (g4 g5 g6 g7 g8 g9 g10 g11 g12 g13 g14 g15 g16 g17 : Int32) (r0 r1 r2 r3 : Nat → Int32) : Int32 := if g13 < 100 then bX_mayLeavePhase_86 g4 g5 g6 g7 g8 g9 g10 g11 g12 g13 g14 g15 g16 g17 r0 r1 r2 r3 else bX_mayLeavePhase_82 g4 g5 g6 g7 g8 g9 g10 g11 g12 g13 g14 g15 g16 g17 r0 r1 r2 r3
def bX_mayLeavePhase_71 (g4 g5 g6 g7 g8 g9 g10 g11 g12 g13 g14 g15 g16 g17 : Int32) (r0 r1 r2 r3 : Nat → Int32) : Int32 := 0
def bX_mayLeavePhase_67 (g4 g5 g6 g7 g8 g9 g10 g11 g12 g13 g14 g15 g16 g17 : Int32) (r0 r1 r2 r3 : Nat → Int32) : Int32 := 1
def bX_mayLeavePhase_60 (g4 g5 g6 g7 g8 g9 g10 g11 g12 g13 g14 g15 g16 g17 : Int32) (r0 r1 r2 r3 : Nat → Int32) : Int32 := if g5 = 0 then bX_mayLeavePhase_67 g4 g5 g6 g7 g8 g9 g10 g11 g12 g13 g14 g15 g16 g17 r0 r1 r2 r3 else bX_mayLeavePhase_71 g4 g5 g6 g7 g8 g9 g10 g11 g12 g13 g14 g15 g16 g17 r0 r1 r2 r3
def bX_mayLeavePhase_51 (g4 g5 g6 g7 g8 g9 g10 g11 g12 g13 g14 g15 g16 g17 : Int32) (r0 r1 r2 r3 : Nat → Int32) : Int32 := if g14 < 20 then bX_mayLeavePhase_71 g4 g5 g6 g7 g8 g9 g10 g11 g12 g13 g14 g15 g16 g17 r0 r1 r2 r3 else bX_mayLeavePhase_60 g4 g5 g6 g7 g8 g9 g10 g11 g12 g13 g14 g15 g16 g17 r0 r1 r2 r3
def bX_mayLeavePhase_44 (g4 g5 g6 g7 g8 g9 g10 g11 g12 g13 g14 g15 g16 g17 : Int32) (r0 r1 r2 r3 : Nat → Int32) : Int32 := if (sX_areConsistent g4 g5 g6 g7 g8 g9 g10 g11 g12 g13 g14 g15 g16 g17 r0 r1 r2 r3) = 0 then bX_mayLeavePhase_71 g4 g5 g6 g7 g8 g9 g10 g11 g12 g13 g14 g15 g16 g17 r0 r1 r2 r3 else bX_mayLeavePhase_51 g4 g5 g6 g7 g8 g9 g10 g11 g12 g13 g14 g15 g16 g17 r0 r1 r2 r3
def bX_mayLeavePhase_0 (g4 g5 g6 g7 g8 g9 g10 g11 g12 g13 g14 g15 g16 g17 : Int32) (r0 r1 r2 r3 : Nat → Int32) : Int32 := if g4 = 0 then bX_mayLeavePhase_44 g4 g5 g6 g7 g8 g9 g10 g11 g12 g13 g14 g15 g16 g17 r0 r1 r2 r3 else if g4 = 1 then bX_mayLeavePhase_73 g4 g5 g6 g7 g8 g9 g10 g11 g12 g13 g14 g15 g16 g17 r0 r1 r2 r3 else if g4 = 2 then bX_mayLeavePhase_88 g4 g5 g6 g7 g8 g9 g10 g11 g12 g13 g14 g15 g16 g17 r0 r1 r2 r3 else if g4 = 3 then bX_mayLeavePhase_131 g4 g5 g6 g7 g8 g9 g10 g11 g12 g13 g14 g15 g16 g17 r0 r1 r2 r3 else if g4 = 4 then bX_mayLeavePhase_101 g4 g5 g6 g7 g8 g9 g10 g11 g12 g13 g14 g15 g16 g17 r0 r1 r2 r3 else if g4 = 5 then bX_mayLeavePhase_116 g4 g5 g6 g7 g8 g9 g10 g11 g12 g13 g14 g15 g16 g17 r0 r1 r2 r3 else bX_mayLeavePhase_131 g4 g5 g6 g7 g8 g9 g10 g11 g12 g13 g14 g15 g16 g17 r0 r1 r2 r3
def sX_mayLeavePhase (g4 g5 g6 g7 g8 g9 g10 g11 g12 g13 g14 g15 g16 g17 : Int32) (r0 r1 r2 r3 : Nat → Int32) : Int32 := bX_mayLeavePhase_0 g4 g5 g6 g7 g8 g9 g10 g11 g12 g13 g14 g15 g16 g17 r0 r1 r2 r3

def bX_beginPhase_15 (g4 g5 g6 g7 g8 g9 g10 g11 g12 g13 g14 g15 g16 g17 : Int32) (r0 r1 r2 r3 : Nat → Int32) : SX := (g4, g5, g6, g7, g8, 0, 0, 0, g12, g13, g14, g15, g16, g17, r0, r1, r2, r3)
def bX_beginPhase_0 (g4 g5 g6 g7 g8 g9 g10 g11 g12 g13 g14 g15 g16 g17 : Int32) (r0 r1 r2 r3 : Nat → Int32) (x1 : Int32) : SX := if x1 = 3 then bX_beginPhase_15 x1 g5 g6 g7 g8 g9 g10 g11 g12 0 g14 g15 g16 g17 r0 r1 r2 r3 else (x1, g5, g6, g7, g8, g9, g10, g11, g12, 0, g14, g15, g16, g17, r0, r1, r2, r3)
def sX_beginPhase (g4 g5 g6 g7 g8 g9 g10 g11 g12 g13 g14 g15 g16 g17 : Int32) (r0 r1 r2 r3 : Nat → Int32) (k1 : Int32) : SX := bX_beginPhase_0 g4 g5 g6 g7 g8 g9 g10 g11 g12 g13 g14 g15 g16 g17 r0 r1 r2 r3 k1

def bX_next_32 (g4 g5 g6 g7 g8 g9 g10 g11 g12 g13 g14 g15 g16 g17 : Int32) (r0 r1 r2 r3 : Nat → Int32) : Int32 × SX := (g4, (g4, g5, g6, g7, g8, g9, g10, g11, g12, g13, g14, g15, g16, g17, r0, r1, r2, r3))
def bX_next_29q  (q : SX) : Int32 × SX := match q with
  | (g4, g5, g6, g7, g8, g9, g10, g11, g12, g13, g14, g15, g16, g17, r0, r1, r2, r3) => bX_next_32 g4 g5 g6 g7 g8 g9 g10 g11 g12 g13 g14 g15 g16 g17 r0 r1 r2 r3
def bX_next_29 (g4 g5 g6 g7 g8 g9 g10 g11 g12 g13 g14 g15 g16 g17 : Int32) (r0 r1 r2 r3 : Nat → Int32) (y0 : Int32) : Int32 × SX := bX_next_29q (sX_beginPhase g4 g5 g6 g7 g8 g9 g10 g11 g12 g13 g14 g15 g16 g17 r0 r1 r2 r3 y0)
def bX_next_23 (g4 g5 g6 g7 g8 g9 g10 g11 g12 g13 g14 g15 g16 g17 : Int32) (r0 r1 r2 r3 : Nat → Int32) : Int32 × SX := bX_next_29 g4 g5 g6 g7 g8 g9 g10 g11 g12 g13 g14 g15 g16 g17 r0 r1 r2 r3 (g4 + 1)
def bX_next_19 (g4 g5 g6 g7 g8 g9 g10 g11 g12 g13 g14 g15 g16 g17 : Int32) (r0 r1 r2 r3 : Nat → Int32) : Int32 × SX := bX_next_29 g4 g5 g6 g7 g8 g9 g10 g11 g12 g13 g14 g15 g16 g17 r0 r1 r2 r3 0
def bX_next_9 (g4 g5 g6 g7 g8 g9 g10 g11 g12 g13 g14 g15 g16 g17 : Int32) (r0 r1 r2 r3 : Nat → Int32) : Int32 × SX := if g4 = 6 then bX_next_19 g4 g5 g6 g7 g8 g9 g10 g11 g12 g13 g14 g15 g16 g17 r0 r1 r2 r3 else bX_next_23 g4 g5 g6 g7 g8 g9 g10 g11 g12 g13 g14 g15 g16 g17 r0 r1 r2 r3
def bX_next_7 (g4 g5 g6 g7 g8 g9 g10 g11 g12 g13 g14 g15 g16 g17 : Int32) (r0 r1 r2 r3 : Nat → Int32) : Int32 × SX := ((-1), (g4, g5, g6, g7, g8, g9, g10, g11, g12, g13, g14, g15, g16, g17, r0, r1, r2, r3))
def bX_next_0 (g4 g5 g6 g7 g8 g9 g10 g11 g12 g13 g14 g15 g16 g17 : Int32) (r0 r1 r2 r3 : Nat → Int32) : Int32 × SX := if (sX_mayLeavePhase g4 g5 g6 g7 g8 g9 g10 g11 g12 g13 g14 g15 g16 g17 r0 r1 r2 r3) = 0 then bX_next_7 g4 g5 g6 g7 g8 g9 g10 g11 g12 g13 g14 g15 g16 g17 r0 r1 r2 r3 else bX_next_9 g4 g5 g6 g7 g8 g9 g10 g11 g12 g13 g14 g15 g16 g17 r0 r1 r2 r3
def sX_next (g4 g5 g6 g7 g8 g9 g10 g11 g12 g13 g14 g15 g16 g17 : Int32) (r0 r1 r2 r3 : Nat → Int32) : Int32 × SX := bX_next_0 g4 g5 g6 g7 g8 g9 g10 g11 g12 g13 g14 g15 g16 g17 r0 r1 r2 r3

def bX_acknowledge_0 (g4 g5 g6 g7 g8 g9 g10 g11 g12 g13 g14 g15 g16 g17 : Int32) (r0 r1 r2 r3 : Nat → Int32) : Int32 × SX := (g5 &&& g6, (g4, g5 &&& g6, g6, g7, g8, g9, g10, g11, g12, g13, g14, g15, g16, g17, r0, r1, r2, r3))
def sX_acknowledge (g4 g5 g6 g7 g8 g9 g10 g11 g12 g13 g14 g15 g16 g17 : Int32) (r0 r1 r2 r3 : Nat → Int32) : Int32 × SX := bX_acknowledge_0 g4 g5 g6 g7 g8 g9 g10 g11 g12 g13 g14 g15 g16 g17 r0 r1 r2 r3

def bX_substitute_12 (g4 g5 g6 g7 g8 g9 g10 g11 g12 g13 g14 g15 g16 g17 : Int32) (r0 r1 r2 r3 : Nat → Int32) (x1 : Int32) : Int32 × SX := (1, (g4, g5, g6, g7, x1, g9, g10, g11, g12, g13, g14, g15, g16, g17, r0, r1, r2, r3))
def bX_substitute_10 (g4 g5 g6 g7 g8 g9 g10 g11 g12 g13 g14 g15 g16 g17 : Int32) (r0 r1 r2 r3 : Nat → Int32) : Int32 × SX := (0, (g4, g5, g6, g7, g8, g9, g10, g11, g12, g13, g14, g15, g16, g17, r0, r1, r2, r3))
def bX_substitute_0 (g4 g5 g6 g7 g8 g9 g10 g11 g12 g13 g14 g15 g16 g17 : Int32) (r0 r1 r2 r3 : Nat → Int32) (x1 : Int32) : Int32 × SX := if (sX_isOutside x1 ((-1)) 15) = 0 then bX_substitute_12 g4 g5 g6 g7 g8 g9 g10 g11 g12 g13 g14 g15 g16 g17 r0 r1 r2 r3 x1 else bX_substitute_10 g4 g5 g6 g7 g8 g9 g10 g11 g12 g13 g14 g15 g16 g17 r0 r1 r2 r3
def sX_substitute (g4 g5 g6 g7 g8 g9 g10 g11 g12 g13 g14 g15 g16 g17 : Int32) (r0 r1 r2 r3 : Nat → Int32) (k1 : Int32) : Int32 × SX := bX_substitute_0 g4 g5 g6 g7 g8 g9 g10 g11 g12 g13 g14 g15 g16 g17 r0 r1 r2 r3 k1

def bX_conditionSensors_62 (K : Int32 → Int32 → Int32 → Int32 → Int32 → Int32 → Int32 → Int32 → Int32 → Int32 → Int32 → Int32 → Int32 → Int32 → (Nat → Int32) → (Nat → Int32) → (Nat → Int32) → (Nat → Int32) → Int32 → SX) (g4 g5 g6 g7 g8 g9 g10 g11 g12 g13 g14 g15 g16 g17 : Int32) (r0 r1 r2 r3 : Nat → Int32) (x1 : Int32) : SX := K g4 g5 g6 g7 g8 g9 g10 g11 g12 g13 g14 g15 g16 g17 r0 r1 r2 r3 (x1 + 1)
def bX_conditionSensors_43 (K : Int32 → Int32 → Int32 → Int32 → Int32 → Int32 → Int32 → Int32 → Int32 → Int32 → Int32 → Int32 → Int32 → Int32 → (Nat → Int32) → (Nat → Int32) → (Nat → Int32) → (Nat → Int32) → Int32 → SX) (g4 g5 g6 g7 g8 g9 g10 g11 g12 g13 g14 g15 g16 g17 : Int32) (r0 r1 r2 r3 : Nat → Int32) (x1 : Int32) : SX := bX_conditionSensors_62 K g4 g5 g6 g7 g8 g9 g10 g11 g12 g13 g14 g15 g16 g17 r0 r1 (upd r2 x1.toNatClampNeg (r1 x1.toNatClampNeg)) (upd r3 x1.toNatClampNeg 0) x1
def bX_conditionSensors_30 (K : Int32 → Int32 → Int32 → Int32 → Int32 → Int32 → Int32 → Int32 → Int32 → Int32 → Int32 → Int32 → Int32 → Int32 → (Nat → Int32) → (Nat → Int32) → (Nat → Int32) → (Nat → Int32) → Int32 → SX) (g4 g5 g6 g7 g8 g9 g10 g11 g12 g13 g14 g15 g16 g17 : Int32) (r0 r1 r2 r3 : Nat → Int32) (x1 : Int32) : SX := bX_conditionSensors_62 K g4 g5 g6 g7 g8 g9 g10 g11 g12 g13 g14 g15 g16 g17 r0 r1 r2 (upd r3 x1.toNatClampNeg ((r3 x1.toNatClampNeg) + 1)) x1
def bX_conditionSensors_8 (K : Int32 → Int32 → Int32 → Int32 → Int32 → Int32 → Int32 → Int32 → Int32 → Int32 → Int32 → Int32 → Int32 → Int32 → (Nat → Int32) → (Nat → Int32) → (Nat → Int32) → (Nat → Int32) → Int32 → SX) (g4 g5 g6 g7 g8 g9 g10 g11 g12 g13 g14 g15 g16 g17 : Int32) (r0 r1 r2 r3 : Nat → Int32) (x1 : Int32) : SX := if (sX_isOutside (r1 x1.toNatClampNeg) (tSL x1.toNatClampNeg) (tSG x1.toNatClampNeg)) = 0 then bX_conditionSensors_43 K g4 g5 g6 g7 g8 g9 g10 g11 g12 g13 g14 g15 g16 g17 r0 r1 r2 r3 x1 else bX_conditionSensors_30 K g4 g5 g6 g7 g8 g9 g10 g11 g12 g13 g14 g15 g16 g17 r0 r1 r2 r3 x1
def bX_conditionSensors_2 : Nat → Int32 → Int32 → Int32 → Int32 → Int32 → Int32 → Int32 → Int32 → Int32 → Int32 → Int32 → Int32 → Int32 → Int32 → (Nat → Int32) → (Nat → Int32) → (Nat → Int32) → (Nat → Int32) → Int32 → SX
  | 0 => fun g4 g5 g6 g7 g8 g9 g10 g11 g12 g13 g14 g15 g16 g17 r0 r1 r2 r3 x1 => (g4, g5, g6, g7, g8, g9, g10, g11, g12, g13, g14, g15, g16, g17, r0, r1, r2, r3)
  | n + 1 => fun g4 g5 g6 g7 g8 g9 g10 g11 g12 g13 g14 g15 g16 g17 r0 r1 r2 r3 x1 => if 6 ≤ x1 then (g4, g5, g6, g7, g8, g9, g10, g11, g12, g13, g14, g15, g16, g17, r0, r1, r2, r3) else bX_conditionSensors_8 (bX_conditionSensors_2 n) g4 g5 g6 g7 g8 g9 g10 g11 g12 g13 g14 g15 g16 g17 r0 r1 r2 r3 x1
theorem bX_conditionSensors_2_s (n : Nat) (g4 g5 g6 g7 g8 g9 g10 g11 g12 g13 g14 g15 g16 g17 : Int32) (r0 r1 r2 r3 : Nat → Int32) (x1 : Int32) : bX_conditionSensors_2 (n + 1) g4 g5 g6 g7 g8 g9 g10 g11 g12 g13 g14 g15 g16 g17 r0 r1 r2 r3 x1 = if 6 ≤ x1 then (g4, g5, g6, g7, g8, g9, g10, g11, g12, g13, g14, g15, g16, g17, r0, r1, r2, r3) else bX_conditionSensors_8 (bX_conditionSensors_2 n) g4 g5 g6 g7 g8 g9 g10 g11 g12 g13 g14 g15 g16 g17 r0 r1 r2 r3 x1 := rfl
def bX_conditionSensors_0 (g4 g5 g6 g7 g8 g9 g10 g11 g12 g13 g14 g15 g16 g17 : Int32) (r0 r1 r2 r3 : Nat → Int32) : SX := bX_conditionSensors_2 7 g4 g5 g6 g7 g8 g9 g10 g11 g12 g13 g14 g15 g16 g17 r0 r1 r2 r3 0
def sX_conditionSensors (g4 g5 g6 g7 g8 g9 g10 g11 g12 g13 g14 g15 g16 g17 : Int32) (r0 r1 r2 r3 : Nat → Int32) : SX := bX_conditionSensors_0 g4 g5 g6 g7 g8 g9 g10 g11 g12 g13 g14 g15 g16 g17 r0 r1 r2 r3

def bX_isConnected_20 (g4 g5 g6 g7 g8 g9 g10 g11 g12 g13 g14 g15 g16 g17 : Int32) (r0 r1 r2 r3 : Nat → Int32) : Int32 := 0
def bX_isConnected_16 (g4 g5 g6 g7 g8 g9 g10 g11 g12 g13 g14 g15 g16 g17 : Int32) (r0 r1 r2 r3 : Nat → Int32) : Int32 := 1
def bX_isConnected_8 (g4 g5 g6 g7 g8 g9 g10 g11 g12 g13 g14 g15 g16 g17 : Int32) (r0 r1 r2 r3 : Nat → Int32) : Int32 := if 4 < g4 then bX_isConnected_20 g4 g5 g6 g7 g8 g9 g10 g11 g12 g13 g14 g15 g16 g17 r0 r1 r2 r3 else bX_isConnected_16 g4 g5 g6 g7 g8 g9 g10 g11 g12 g13 g14 g15 g16 g17 r0 r1 r2 r3
def bX_isConnected_0 (g4 g5 g6 g7 g8 g9 g10 g11 g12 g13 g14 g15 g16 g17 : Int32) (r0 r1 r2 r3 : Nat → Int32) : Int32 := if g4 < 2 then bX_isConnected_20 g4 g5 g6 g7 g8 g9 g10 g11 g12 g13 g14 g15 g16 g17 r0 r1 r2 r3 else bX_isConnected_8 g4 g5 g6 g7 g8 g9 g10 g11 g12 g13 g14 g15 g16 g17 r0 r1 r2 r3
def sX_isConnected (g4 g5 g6 g7 g8 g9 g10 g11 g12 g13 g14 g15 g16 g17 : Int32) (r0 r1 r2 r3 : Nat → Int32) : Int32 := bX_isConnected_0 g4 g5 g6 g7 g8 g9 g10 g11 g12 g13 g14 g15 g16 g17 r0 r1 r2 r3

def bX_isFluidOff_45 (g4 g5 g6 g7 g8 g9 g10 g11 g12 g13 g14 g15 g16 g17 : Int32) (r0 r1 r2 r3 : Nat → Int32) : Int32 := 0
def bX_isFluidOff_41 (g4 g5 g6 g7 g8 g9 g10 g11 g12 g13 g14 g15 g16 g17 : Int32) (r0 r1 r2 r3 : Nat → Int32) : Int32 := 1
def bX_isFluidOff_20 (g4 g5 g6 g7 g8 g9 g10 g11 g12 g13 g14 g15 g16 g17 : Int32) (r0 r1 r2 r3 : Nat → Int32) : Int32 := if (if 0 ≤ ((r2 3) - (r0 5)) then (r2 3) - (r0 5) else 0 - ((r2 3) - (r0 5))) ≤ 40 then bX_isFluidOff_45 g4 g5 g6 g7 g8 g9 g10 g11 g12 g13 g14 g15 g16 g17 r0 r1 r2 r3 else bX_isFluidOff_41 g4 g5 g6 g7 g8 g9 g10 g11 g12 g13 g14 g15 g16 g17 r0 r1 r2 r3
def bX_isFluidOff_0 (g4 g5 g6 g7 g8 g9 g10 g11 g12 g13 g14 g15 g16 g17 : Int32) (r0 r1 r2 r3 : Nat → Int32) : Int32 := if 5 < (if 0 ≤ ((r2 2) - (r0 4)) then (r2 2) - (r0 4) else 0 - ((r2 2) - (r0 4))) then bX_isFluidOff_41 g4 g5 g6 g7 g8 g9 g10 g11 g12 g13 g14 g15 g16 g17 r0 r1 r2 r3 else bX_isFluidOff_20 g4 g5 g6 g7 g8 g9 g10 g11 g12 g13 g14 g15 g16 g17 r0 r1 r2 r3
def sX_isFluidOff (g4 g5 g6 g7 g8 g9 g10 g11 g12 g13 g14 g15 g16 g17 : Int32) (r0 r1 r2 r3 : Nat → Int32) : Int32 := bX_isFluidOff_0 g4 g5 g6 g7 g8 g9 g10 g11 g12 g13 g14 g15 g16 g17 r0 r1 r2 r3

def bX_countTicksInARow_138 (g4 g5 g6 g7 g8 g9 g10 g11 g12 g13 g14 g15 g16 g17 : Int32) (r0 r1 r2 r3 : Nat → Int32) (y0 : Int32) : SX := (g4, g5, g6, g7, g8, g9, g10, g11, g12, g13, y0, g15, g16, g17, r0, r1, r2, r3)
def bX_countTicksInARow_132 (g4 g5 g6 g7 g8 g9 g10 g11 g12 g13 g14 g15 g16 g17 : Int32) (r0 r1 r2 r3 : Nat → Int32) : SX := bX_countTicksInARow_138 g4 g5 g6 g7 g8 g9 g10 g11 g12 g13 g14 g15 g16 g17 r0 r1 r2 r3 (g14 + 1)
def bX_countTicksInARow_128 (g4 g5 g6 g7 g8 g9 g10 g11 g12 g13 g14 g15 g16 g17 : Int32) (r0 r1 r2 r3 : Nat → Int32) : SX := bX_countTicksInARow_138 g4 g5 g6 g7 g8 g9 g10 g11 g12 g13 g14 g15 g16 g17 r0 r1 r2 r3 0
def bX_countTicksInARow_119 (g4 g5 g6 g7 g8 g9 g10 g11 g12 g13 g14 g15 g16 g17 : Int32) (r0 r1 r2 r3 : Nat → Int32) (x4 : Int32) (y0 : Int32) : SX := if x4 = 0 then bX_countTicksInARow_132 g4 g5 g6 g7 g8 g9 g10 g11 g12 g13 g14 y0 g16 g17 r0 r1 r2 r3 else bX_countTicksInARow_128 g4 g5 g6 g7 g8 g9 g10 g11 g12 g13 g14 y0 g16 g17 r0 r1 r2 r3
def bX_countTicksInARow_118 (g4 g5 g6 g7 g8 g9 g10 g11 g12 g13 g14 g15 g16 g17 : Int32) (r0 r1 r2 r3 : Nat → Int32) (x4 : Int32) : SX := bX_countTicksInARow_119 g4 g5 g6 g7 g8 g9 g10 g11 g12 g13 g14 g15 g16 g17 r0 r1 r2 r3 x4 0
def bX_countTicksInARow_109 (g4 g5 g6 g7 g8 g9 g10 g11 g12 g13 g14 g15 g16 g17 : Int32) (r0 r1 r2 r3 : Nat → Int32) (x4 : Int32) : SX := bX_countTicksInARow_119 g4 g5 g6 g7 g8 g9 g10 g11 g12 g13 g14 g15 g16 g17 r0 r1 r2 r3 x4 (g15 + 1)
def bX_countTicksInARow_100 (g4 g5 g6 g7 g8 g9 g10 g11 g12 g13 g14 g15 g16 g17 : Int32) (r0 r1 r2 r3 : Nat → Int32) (x4 : Int32) (y0 : Int32) : SX := if x4 = 0 then bX_countTicksInARow_118 g4 g5 g6 g7 g8 g9 g10 g11 g12 g13 g14 g15 g16 y0 r0 r1 r2 r3 x4 else bX_countTicksInARow_109 g4 g5 g6 g7 g8 g9 g10 g11 g12 g13 g14 g15 g16 y0 r0 r1 r2 r3 x4
def bX_countTicksInARow_99 (g4 g5 g6 g7 g8 g9 g10 g11 g12 g13 g14 g15 g16 g17 : Int32) (r0 r1 r2 r3 : Nat → Int32) (x4 : Int32) : SX := bX_countTicksInARow_100 g4 g5 g6 g7 g8 g9 g10 g11 g12 g13 g14 g15 g16 g17 r0 r1 r2 r3 x4 0
def bX_countTicksInARow_90 (g4 g5 g6 g7 g8 g9 g10 g11 g12 g13 g14 g15 g16 g17 : Int32) (r0 r1 r2 r3 : Nat → Int32) (x4 : Int32) : SX := bX_countTicksInARow_100 g4 g5 g6 g7 g8 g9 g10 g11 g12 g13 g14 g15 g16 g17 r0 r1 r2 r3 x4 (g17 + 1)
def bX_countTicksInARow_86 (g4 g5 g6 g7 g8 g9 g10 g11 g12 g13 g14 g15 g16 g17 : Int32) (r0 r1 r2 r3 : Nat → Int32) (x3 : Int32) (x4 : Int32) : SX := if x3 = 0 then bX_countTicksInARow_99 g4 g5 g6 g7 g8 g9 g10 g11 g12 g13 g14 g15 g16 g17 r0 r1 r2 r3 x4 else bX_countTicksInARow_90 g4 g5 g6 g7 g8 g9 g10 g11 g12 g13 g14 g15 g16 g17 r0 r1 r2 r3 x4
def bX_countTicksInARow_78 (g4 g5 g6 g7 g8 g9 g10 g11 g12 g13 g14 g15 g16 g17 : Int32) (r0 r1 r2 r3 : Nat → Int32) (x1 : Int32) (x3 : Int32) (x4 : Int32) (y0 : Int32) : SX := if x1 = 0 then bX_countTicksInARow_99 g4 g5 g6 g7 g8 g9 g10 g11 g12 g13 g14 g15 y0 g17 r0 r1 r2 r3 x4 else bX_countTicksInARow_86 g4 g5 g6 g7 g8 g9 g10 g11 g12 g13 g14 g15 y0 g17 r0 r1 r2 r3 x3 x4
def bX_countTicksInARow_77 (g4 g5 g6 g7 g8 g9 g10 g11 g12 g13 g14 g15 g16 g17 : Int32) (r0 r1 r2 r3 : Nat → Int32) (x1 : Int32) (x3 : Int32) (x4 : Int32) : SX := bX_countTicksInARow_78 g4 g5 g6 g7 g8 g9 g10 g11 g12 g13 g14 g15 g16 g17 r0 r1 r2 r3 x1 x3 x4 0
def bX_countTicksInARow_68 (g4 g5 g6 g7 g8 g9 g10 g11 g12 g13 g14 g15 g16 g17 : Int32) (r0 r1 r2 r3 : Nat → Int32) (x1 : Int32) (x3 : Int32) (x4 : Int32) : SX := bX_countTicksInARow_78 g4 g5 g6 g7 g8 g9 g10 g11 g12 g13 g14 g15 g16 g17 r0 r1 r2 r3 x1 x3 x4 (g16 + 1)
def bX_countTicksInARow_64 (g4 g5 g6 g7 g8 g9 g10 g11 g12 g13 g14 g15 g16 g17 : Int32) (r0 r1 r2 r3 : Nat → Int32) (x1 : Int32) (x2 : Int32) (x3 : Int32) (x4 : Int32) : SX := if x2 = 0 then bX_countTicksInARow_77 g4 g5 g6 g7 g8 g9 g10 g11 g12 g13 g14 g15 g16 g17 r0 r1 r2 r3 x1 x3 x4 else bX_countTicksInARow_68 g4 g5 g6 g7 g8 g9 g10 g11 g12 g13 g14 g15 g16 g17 r0 r1 r2 r3 x1 x3 x4
def bX_countTicksInARow_0 (g4 g5 g6 g7 g8 g9 g10 g11 g12 g13 g14 g15 g16 g17 : Int32) (r0 r1 r2 r3 : Nat → Int32) : SX := if (sX_isConnected g4 g5 g6 g7 g8 g9 g10 g11 g12 g13 g14 g15 g16 g17 r0 r1 r2 r3) = 0 then bX_countTicksInARow_77 g4 g5 g6 g7 g8 g9 g10 g11 g12 g13 g14 g15 g16 g17 r0 r1 r2 r3 (sX_isConnected g4 g5 g6 g7 g8 g9 g10 g11 g12 g13 g14 g15 g16 g17 r0 r1 r2 r3) (sX_isOutside (r2 1) (r0 8) (r0 9)) (sX_isFluidOff g4 g5 g6 g7 g8 g9 g10 g11 g12 g13 g14 g15 g16 g17 r0 r1 r2 r3) else bX_countTicksInARow_64 g4 g5 g6 g7 g8 g9 g10 g11 g12 g13 g14 g15 g16 g17 r0 r1 r2 r3 (sX_isConnected g4 g5 g6 g7 g8 g9 g10 g11 g12 g13 g14 g15 g16 g17 r0 r1 r2 r3) (sX_isOutside (r2 0) (r0 6) (r0 7)) (sX_isOutside (r2 1) (r0 8) (r0 9)) (sX_isFluidOff g4 g5 g6 g7 g8 g9 g10 g11 g12 g13 g14 g15 g16 g17 r0 r1 r2 r3)
def sX_countTicksInARow (g4 g5 g6 g7 g8 g9 g10 g11 g12 g13 g14 g15 g16 g17 : Int32) (r0 r1 r2 r3 : Nat → Int32) : SX := bX_countTicksInARow_0 g4 g5 g6 g7 g8 g9 g10 g11 g12 g13 g14 g15 g16 g17 r0 r1 r2 r3

def bX_isSomeSensorFaulty_26 (g4 g5 g6 g7 g8 g9 g10 g11 g12 g13 g14 g15 g16 g17 : Int32) (r0 r1 r2 r3 : Nat → Int32) : Int32 := 0
def bX_isSomeSensorFaulty_20 (K : Int32 → Int32 → Int32 → Int32 → Int32 → Int32 → Int32 → Int32 → Int32 → Int32 → Int32 → Int32 → Int32 → Int32 → (Nat → Int32) → (Nat → Int32) → (Nat → Int32) → (Nat → Int32) → Int32 → Int32) (g4 g5 g6 g7 g8 g9 g10 g11 g12 g13 g14 g15 g16 g17 : Int32) (r0 r1 r2 r3 : Nat → Int32) (x1 : Int32) : Int32 := K g4 g5 g6 g7 g8 g9 g10 g11 g12 g13 g14 g15 g16 g17 r0 r1 r2 r3 (x1 + 1)
def bX_isSomeSensorFaulty_18 (K : Int32 → Int32 → Int32 → Int32 → Int32 → Int32 → Int32 → Int32 → Int32 → Int32 → Int32 → Int32 → Int32 → Int32 → (Nat → Int32) → (Nat → Int32) → (Nat → Int32) → (Nat → Int32) → Int32 → Int32) (g4 g5 g6 g7 g8 g9 g10 g11 g12 g13 g14 g15 g16 g17 : Int32) (r0 r1 r2 r3 : Nat → Int32) : Int32 := 1
def bX_isSomeSensorFaulty_8 (K : Int32 → Int32 → Int32 → Int32 → Int32 → Int32 → Int32 → Int32 → Int32 → Int32 → Int32 → Int32 → Int32 → Int32 → (Nat → Int32) → (Nat → Int32) → (Nat → Int32) → (Nat → Int32) → Int32 → Int32) (g4 g5 g6 g7 g8 g9 g10 g11 g12 g13 g14 g15 g16 g17 : Int32) (r0 r1 r2 r3 : Nat → Int32) (x1 : Int32) : Int32 := if (r3 x1.toNatClampNeg) < 3 then bX_isSomeSensorFaulty_20 K g4 g5 g6 g7 g8 g9 g10 g11 g12 g13 g14 g15 g16 g17 r0 r1 r2 r3 x1 else bX_isSomeSensorFaulty_18 K g4 g5 g6 g7 g8 g9 g10 g11 g12 g13 g14 g15 g16 g17 r0 r1 r2 r3
def bX_isSomeSensorFaulty_2 : Nat → Int32 → Int32 → Int32 → Int32 → Int32 → Int32 → Int32 → Int32 → Int32 → Int32 → Int32 → Int32 → Int32 → Int32 → (Nat → Int32) → (Nat → Int32) → (Nat → Int32) → (Nat → Int32) → Int32 → Int32
  | 0 => fun g4 g5 g6 g7 g8 g9 g10 g11 g12 g13 g14 g15 g16 g17 r0 r1 r2 r3 x1 => 0
  | n + 1 => fun g4 g5 g6 g7 g8 g9 g10 g11 g12 g13 g14 g15 g16 g17 r0 r1 r2 r3 x1 => if 6 ≤ x1 then bX_isSomeSensorFaulty_26 g4 g5 g6 g7 g8 g9 g10 g11 g12 g13 g14 g15 g16 g17 r0 r1 r2 r3 else bX_isSomeSensorFaulty_8 (bX_isSomeSensorFaulty_2 n) g4 g5 g6 g7 g8 g9 g10 g11 g12 g13 g14 g15 g16 g17 r0 r1 r2 r3 x1
theorem bX_isSomeSensorFaulty_2_s (n : Nat) (g4 g5 g6 g7 g8 g9 g10 g11 g12 g13 g14 g15 g16 g17 : Int32) (r0 r1 r2 r3 : Nat → Int32) (x1 : Int32) : bX_isSomeSensorFaulty_2 (n + 1) g4 g5 g6 g7 g8 g9 g10 g11 g12 g13 g14 g15 g16 g17 r0 r1 r2 r3 x1 = if 6 ≤ x1 then bX_isSomeSensorFaulty_26 g4 g5 g6 g7 g8 g9 g10 g11 g12 g13 g14 g15 g16 g17 r0 r1 r2 r3 else bX_isSomeSensorFaulty_8 (bX_isSomeSensorFaulty_2 n) g4 g5 g6 g7 g8 g9 g10 g11 g12 g13 g14 g15 g16 g17 r0 r1 r2 r3 x1 := rfl
def bX_isSomeSensorFaulty_0 (g4 g5 g6 g7 g8 g9 g10 g11 g12 g13 g14 g15 g16 g17 : Int32) (r0 r1 r2 r3 : Nat → Int32) : Int32 := bX_isSomeSensorFaulty_2 7 g4 g5 g6 g7 g8 g9 g10 g11 g12 g13 g14 g15 g16 g17 r0 r1 r2 r3 0
def sX_isSomeSensorFaulty (g4 g5 g6 g7 g8 g9 g10 g11 g12 g13 g14 g15 g16 g17 : Int32) (r0 r1 r2 r3 : Nat → Int32) : Int32 := bX_isSomeSensorFaulty_0 g4 g5 g6 g7 g8 g9 g10 g11 g12 g13 g14 g15 g16 g17 r0 r1 r2 r3

def bX_conditionsNow_107 (g4 g5 g6 g7 g8 g9 g10 g11 g12 g13 g14 g15 g16 g17 : Int32) (r0 r1 r2 r3 : Nat → Int32) (y0 : Int32) (y1 : Int32) : Int32 := y1 ||| y0
def bX_conditionsNow_106 (g4 g5 g6 g7 g8 g9 g10 g11 g12 g13 g14 g15 g16 g17 : Int32) (r0 r1 r2 r3 : Nat → Int32) (y0 : Int32) : Int32 := bX_conditionsNow_107 g4 g5 g6 g7 g8 g9 g10 g11 g12 g13 g14 g15 g16 g17 r0 r1 r2 r3 0 y0
def bX_conditionsNow_101 (g4 g5 g6 g7 g8 g9 g10 g11 g12 g13 g14 g15 g16 g17 : Int32) (r0 r1 r2 r3 : Nat → Int32) (y0 : Int32) : Int32 := bX_conditionsNow_107 g4 g5 g6 g7 g8 g9 g10 g11 g12 g13 g14 g15 g16 g17 r0 r1 r2 r3 32 y0
def bX_conditionsNow_93 (g4 g5 g6 g7 g8 g9 g10 g11 g12 g13 g14 g15 g16 g17 : Int32) (r0 r1 r2 r3 : Nat → Int32) (y0 : Int32) (y1 : Int32) : Int32 := if (sX_isSomeSensorFaulty g4 g5 g6 g7 g8 g9 g10 g11 g12 g13 g14 g15 g16 g17 r0 r1 r2 r3) = 0 then bX_conditionsNow_106 g4 g5 g6 g7 g8 g9 g10 g11 g12 g13 g14 g15 g16 g17 r0 r1 r2 r3 (y1 ||| y0) else bX_conditionsNow_101 g4 g5 g6 g7 g8 g9 g10 g11 g12 g13 g14 g15 g16 g17 r0 r1 r2 r3 (y1 ||| y0)
def bX_conditionsNow_92 (g4 g5 g6 g7 g8 g9 g10 g11 g12 g13 g14 g15 g16 g17 : Int32) (r0 r1 r2 r3 : Nat → Int32) (y0 : Int32) : Int32 := bX_conditionsNow_93 g4 g5 g6 g7 g8 g9 g10 g11 g12 g13 g14 g15 g16 g17 r0 r1 r2 r3 0 y0
def bX_conditionsNow_87 (g4 g5 g6 g7 g8 g9 g10 g11 g12 g13 g14 g15 g16 g17 : Int32) (r0 r1 r2 r3 : Nat → Int32) (y0 : Int32) : Int32 := bX_conditionsNow_93 g4 g5 g6 g7 g8 g9 g10 g11 g12 g13 g14 g15 g16 g17 r0 r1 r2 r3 16 y0
def bX_conditionsNow_76 (g4 g5 g6 g7 g8 g9 g10 g11 g12 g13 g14 g15 g16 g17 : Int32) (r0 r1 r2 r3 : Nat → Int32) (y0 : Int32) (y1 : Int32) : Int32 := if g15 < 600 then bX_conditionsNow_92 g4 g5 g6 g7 g8 g9 g10 g11 g12 g13 g14 g15 g16 g17 r0 r1 r2 r3 (y1 ||| y0) else bX_conditionsNow_87 g4 g5 g6 g7 g8 g9 g10 g11 g12 g13 g14 g15 g16 g17 r0 r1 r2 r3 (y1 ||| y0)
def bX_conditionsNow_75 (g4 g5 g6 g7 g8 g9 g10 g11 g12 g13 g14 g15 g16 g17 : Int32) (r0 r1 r2 r3 : Nat → Int32) (y0 : Int32) : Int32 := bX_conditionsNow_76 g4 g5 g6 g7 g8 g9 g10 g11 g12 g13 g14 g15 g16 g17 r0 r1 r2 r3 0 y0
def bX_conditionsNow_70 (g4 g5 g6 g7 g8 g9 g10 g11 g12 g13 g14 g15 g16 g17 : Int32) (r0 r1 r2 r3 : Nat → Int32) (y0 : Int32) : Int32 := bX_conditionsNow_76 g4 g5 g6 g7 g8 g9 g10 g11 g12 g13 g14 g15 g16 g17 r0 r1 r2 r3 8 y0
def bX_conditionsNow_60 (g4 g5 g6 g7 g8 g9 g10 g11 g12 g13 g14 g15 g16 g17 : Int32) (r0 r1 r2 r3 : Nat → Int32) (y0 : Int32) : Int32 := if (r2 5) = 1 then bX_conditionsNow_70 g4 g5 g6 g7 g8 g9 g10 g11 g12 g13 g14 g15 g16 g17 r0 r1 r2 r3 y0 else bX_conditionsNow_75 g4 g5 g6 g7 g8 g9 g10 g11 g12 g13 g14 g15 g16 g17 r0 r1 r2 r3 y0
def bX_conditionsNow_51 (g4 g5 g6 g7 g8 g9 g10 g11 g12 g13 g14 g15 g16 g17 : Int32) (r0 r1 r2 r3 : Nat → Int32) (y0 : Int32) (y1 : Int32) : Int32 := if g4 = 3 then bX_conditionsNow_60 g4 g5 g6 g7 g8 g9 g10 g11 g12 g13 g14 g15 g16 g17 r0 r1 r2 r3 (y1 ||| y0) else bX_conditionsNow_75 g4 g5 g6 g7 g8 g9 g10 g11 g12 g13 g14 g15 g16 g17 r0 r1 r2 r3 (y1 ||| y0)
def bX_conditionsNow_50 (g4 g5 g6 g7 g8 g9 g10 g11 g12 g13 g14 g15 g16 g17 : Int32) (r0 r1 r2 r3 : Nat → Int32) (y0 : Int32) : Int32 := bX_conditionsNow_51 g4 g5 g6 g7 g8 g9 g10 g11 g12 g13 g14 g15 g16 g17 r0 r1 r2 r3 0 y0
def bX_conditionsNow_46 (g4 g5 g6 g7 g8 g9 g10 g11 g12 g13 g14 g15 g16 g17 : Int32) (r0 r1 r2 r3 : Nat → Int32) (y0 : Int32) : Int32 := bX_conditionsNow_51 g4 g5 g6 g7 g8 g9 g10 g11 g12 g13 g14 g15 g16 g17 r0 r1 r2 r3 4 y0
def bX_conditionsNow_36 (g4 g5 g6 g7 g8 g9 g10 g11 g12 g13 g14 g15 g16 g17 : Int32) (r0 r1 r2 r3 : Nat → Int32) (y0 : Int32) : Int32 := if (r2 4) = 1 then bX_conditionsNow_46 g4 g5 g6 g7 g8 g9 g10 g11 g12 g13 g14 g15 g16 g17 r0 r1 r2 r3 y0 else bX_conditionsNow_50 g4 g5 g6 g7 g8 g9 g10 g11 g12 g13 g14 g15 g16 g17 r0 r1 r2 r3 y0
def bX_conditionsNow_28 (g4 g5 g6 g7 g8 g9 g10 g11 g12 g13 g14 g15 g16 g17 : Int32) (r0 r1 r2 r3 : Nat → Int32) (y0 : Int32) (y1 : Int32) : Int32 := if (sX_isConnected g4 g5 g6 g7 g8 g9 g10 g11 g12 g13 g14 g15 g16 g17 r0 r1 r2 r3) = 0 then bX_conditionsNow_50 g4 g5 g6 g7 g8 g9 g10 g11 g12 g13 g14 g15 g16 g17 r0 r1 r2 r3 (y1 ||| y0) else bX_conditionsNow_36 g4 g5 g6 g7 g8 g9 g10 g11 g12 g13 g14 g15 g16 g17 r0 r1 r2 r3 (y1 ||| y0)
def bX_conditionsNow_27 (g4 g5 g6 g7 g8 g9 g10 g11 g12 g13 g14 g15 g16 g17 : Int32) (r0 r1 r2 r3 : Nat → Int32) (y0 : Int32) : Int32 := bX_conditionsNow_28 g4 g5 g6 g7 g8 g9 g10 g11 g12 g13 g14 g15 g16 g17 r0 r1 r2 r3 0 y0
def bX_conditionsNow_23 (g4 g5 g6 g7 g8 g9 g10 g11 g12 g13 g14 g15 g16 g17 : Int32) (r0 r1 r2 r3 : Nat → Int32) (y0 : Int32) : Int32 := bX_conditionsNow_28 g4 g5 g6 g7 g8 g9 g10 g11 g12 g13 g14 g15 g16 g17 r0 r1 r2 r3 2 y0
def bX_conditionsNow_14 (g4 g5 g6 g7 g8 g9 g10 g11 g12 g13 g14 g15 g16 g17 : Int32) (r0 r1 r2 r3 : Nat → Int32) (y0 : Int32) : Int32 := if g17 < 30 then bX_conditionsNow_27 g4 g5 g6 g7 g8 g9 g10 g11 g12 g13 g14 g15 g16 g17 r0 r1 r2 r3 y0 else bX_conditionsNow_23 g4 g5 g6 g7 g8 g9 g10 g11 g12 g13 g14 g15 g16 g17 r0 r1 r2 r3 y0
def bX_conditionsNow_13 (g4 g5 g6 g7 g8 g9 g10 g11 g12 g13 g14 g15 g16 g17 : Int32) (r0 r1 r2 r3 : Nat → Int32) : Int32 := bX_conditionsNow_14 g4 g5 g6 g7 g8 g9 g10 g11 g12 g13 g14 g15 g16 g17 r0 r1 r2 r3 0
def bX_conditionsNow_9 (g4 g5 g6 g7 g8 g9 g10 g11 g12 g13 g14 g15 g16 g17 : Int32) (r0 r1 r2 r3 : Nat → Int32) : Int32 := bX_conditionsNow_14 g4 g5 g6 g7 g8 g9 g10 g11 g12 g13 g14 g15 g16 g17 r0 r1 r2 r3 1
def bX_conditionsNow_0 (g4 g5 g6 g7 g8 g9 g10 g11 g12 g13 g14 g15 g16 g17 : Int32) (r0 r1 r2 r3 : Nat → Int32) : Int32 := if g16 < 30 then bX_conditionsNow_13 g4 g5 g6 g7 g8 g9 g10 g11 g12 g13 g14 g15 g16 g17 r0 r1 r2 r3 else bX_conditionsNow_9 g4 g5 g6 g7 g8 g9 g10 g11 g12 g13 g14 g15 g16 g17 r0 r1 r2 r3
def sX_conditionsNow (g4 g5 g6 g7 g8 g9 g10 g11 g12 g13 g14 g15 g16 g17 : Int32) (r0 r1 r2 r3 : Nat → Int32) : Int32 := bX_conditionsNow_0 g4 g5 g6 g7 g8 g9 g10 g11 g12 g13 g14 g15 g16 g17 r0 r1 r2 r3

def bX_ticksOfTreatment_0 (g4 g5 g6 g7 g8 g9 g10 g11 g12 g13 g14 g15 g16 g17 : Int32) (r0 r1 r2 r3 : Nat → Int32) : Int32 := 600 * (r0 3)
def sX_ticksOfTreatment (g4 g5 g6 g7 g8 g9 g10 g11 g12 g13 g14 g15 g16 g17 : Int32) (r0 r1 r2 r3 : Nat → Int32) : Int32 := bX_ticksOfTreatment_0 g4 g5 g6 g7 g8 g9 g10 g11 g12 g13 g14 g15 g16 g17 r0 r1 r2 r3

def bX_isStrokeWanted_42 (g4 g5 g6 g7 g8 g9 g10 g11 g12 g13 g14 g15 g16 g17 : Int32) (r0 r1 r2 r3 : Nat → Int32) : Int32 := 0
def bX_isStrokeWanted_38 (g4 g5 g6 g7 g8 g9 g10 g11 g12 g13 g14 g15 g16 g17 : Int32) (r0 r1 r2 r3 : Nat → Int32) : Int32 := 1
def bX_isStrokeWanted_0 (g4 g5 g6 g7 g8 g9 g10 g11 g12 g13 g14 g15 g16 g17 : Int32) (r0 r1 r2 r3 : Nat → Int32) : Int32 := if (lg_cmp ((((r0 1).toInt64) * 1000) * g9.toInt64) (((g10 + 500).toInt64) * ((sX_ticksOfTreatment g4 g5 g6 g7 g8 g9 g10 g11 g12 g13 g14 g15 g16 g17 r0 r1 r2 r3).toInt64))) < 0 then bX_isStrokeWanted_42 g4 g5 g6 g7 g8 g9 g10 g11 g12 g13 g14 g15 g16 g17 r0 r1 r2 r3 else bX_isStrokeWanted_38 g4 g5 g6 g7 g8 g9 g10 g11 g12 g13 g14 g15 g16 g17 r0 r1 r2 r3
def sX_isStrokeWanted (g4 g5 g6 g7 g8 g9 g10 g11 g12 g13 g14 g15 g16 g17 : Int32) (r0 r1 r2 r3 : Nat → Int32) : Int32 := bX_isStrokeWanted_0 g4 g5 g6 g7 g8 g9 g10 g11 g12 g13 g14 g15 g16 g17 r0 r1 r2 r3

def bX_commandsOfControl_180 (g4 g5 g6 g7 g8 g9 g10 g11 g12 g13 g14 g15 g16 g17 : Int32) (r0 r1 r2 r3 : Nat → Int32) (y0 : Int32) (y1 : Int32) : Int32 × SX := (y1 ||| y0, (g4, g5, g6, g7, g8, g9, g10, g11, g12, g13, g14, g15, g16, g17, r0, r1, r2, r3))
def bX_commandsOfControl_179 (g4 g5 g6 g7 g8 g9 g10 g11 g12 g13 g14 g15 g16 g17 : Int32) (r0 r1 r2 r3 : Nat → Int32) (y0 : Int32) : Int32 × SX := bX_commandsOfControl_180 g4 g5 g6 g7 g8 g9 g10 g11 g12 g13 g14 g15 g16 g17 r0 r1 r2 r3 0 y0
def bX_commandsOfControl_174 (g4 g5 g6 g7 g8 g9 g10 g11 g12 g13 g14 g15 g16 g17 : Int32) (r0 r1 r2 r3 : Nat → Int32) (y0 : Int32) : Int32 × SX := bX_commandsOfControl_180 g4 g5 g6 g7 g8 g9 g10 g11 g12 g13 g14 g15 g16 g17 r0 r1 r2 r3 8 y0
def bX_commandsOfControl_168 (g4 g5 g6 g7 g8 g9 g10 g11 g12 g13 g14 g15 g16 g17 : Int32) (r0 r1 r2 r3 : Nat → Int32) (x5 : Int32) (y0 : Int32) (y1 : Int32) : Int32 × SX := if x5 = 0 then bX_commandsOfControl_179 g4 g5 g6 g7 g8 g9 g10 g11 g12 g13 g14 g15 g16 g17 r0 r1 r2 r3 (y1 ||| y0) else bX_commandsOfControl_174 g4 g5 g6 g7 g8 g9 g10 g11 g12 g13 g14 g15 g16 g17 r0 r1 r2 r3 (y1 ||| y0)
def bX_commandsOfControl_167 (g4 g5 g6 g7 g8 g9 g10 g11 g12 g13 g14 g15 g16 g17 : Int32) (r0 r1 r2 r3 : Nat → Int32) (x5 : Int32) (y0 : Int32) : Int32 × SX := bX_commandsOfControl_168 g4 g5 g6 g7 g8 g9 g10 g11 g12 g13 g14 g15 g16 g17 r0 r1 r2 r3 x5 0 y0
def bX_commandsOfControl_163 (g4 g5 g6 g7 g8 g9 g10 g11 g12 g13 g14 g15 g16 g17 : Int32) (r0 r1 r2 r3 : Nat → Int32) (x5 : Int32) (y0 : Int32) : Int32 × SX := bX_commandsOfControl_168 g4 g5 g6 g7 g8 g9 g10 g11 g12 g13 g14 g15 g16 g17 r0 r1 r2 r3 x5 4 y0
def bX_commandsOfControl_157 (g4 g5 g6 g7 g8 g9 g10 g11 g12 g13 g14 g15 g16 g17 : Int32) (r0 r1 r2 r3 : Nat → Int32) (x4 : Int32) (x5 : Int32) (y0 : Int32) (y1 : Int32) : Int32 × SX := if x4 = 0 then bX_commandsOfControl_167 g4 g5 g6 g7 g8 g9 g10 g11 g12 g13 g14 g15 g16 g17 r0 r1 r2 r3 x5 (y1 ||| y0) else bX_commandsOfControl_163 g4 g5 g6 g7 g8 g9 g10 g11 g12 g13 g14 g15 g16 g17 r0 r1 r2 r3 x5 (y1 ||| y0)
def bX_commandsOfControl_156 (g4 g5 g6 g7 g8 g9 g10 g11 g12 g13 g14 g15 g16 g17 : Int32) (r0 r1 r2 r3 : Nat → Int32) (x4 : Int32) (x5 : Int32) (y0 : Int32) : Int32 × SX := bX_commandsOfControl_157 g4 g5 g6 g7 g8 g9 g10 g11 g12 g13 g14 g15 g16 g17 r0 r1 r2 r3 x4 x5 0 y0
def bX_commandsOfControl_152 (g4 g5 g6 g7 g8 g9 g10 g11 g12 g13 g14 g15 g16 g17 : Int32) (r0 r1 r2 r3 : Nat → Int32) (x4 : Int32) (x5 : Int32) (y0 : Int32) : Int32 × SX := bX_commandsOfControl_157 g4 g5 g6 g7 g8 g9 g10 g11 g12 g13 g14 g15 g16 g17 r0 r1 r2 r3 x4 x5 2 y0
def bX_commandsOfControl_148 (g4 g5 g6 g7 g8 g9 g10 g11 g12 g13 g14 g15 g16 g17 : Int32) (r0 r1 r2 r3 : Nat → Int32) (x3 : Int32) (x4 : Int32) (x5 : Int32) (y0 : Int32) : Int32 × SX := if x3 = 0 then bX_commandsOfControl_156 g4 g5 g6 g7 g8 g9 g10 g11 g12 g13 g14 g15 g16 g17 r0 r1 r2 r3 x4 x5 y0 else bX_commandsOfControl_152 g4 g5 g6 g7 g8 g9 g10 g11 g12 g13 g14 g15 g16 g17 r0 r1 r2 r3 x4 x5 y0
def bX_commandsOfControl_147 (g4 g5 g6 g7 g8 g9 g10 g11 g12 g13 g14 g15 g16 g17 : Int32) (r0 r1 r2 r3 : Nat → Int32) (x3 : Int32) (x4 : Int32) (x5 : Int32) : Int32 × SX := bX_commandsOfControl_148 g4 g5 g6 g7 g8 g9 g10 g11 g12 g13 g14 g15 g16 g17 r0 r1 r2 r3 x3 x4 x5 0
def bX_commandsOfControl_143 (g4 g5 g6 g7 g8 g9 g10 g11 g12 g13 g14 g15 g16 g17 : Int32) (r0 r1 r2 r3 : Nat → Int32) (x3 : Int32) (x4 : Int32) (x5 : Int32) : Int32 × SX := bX_commandsOfControl_148 g4 g5 g6 g7 g8 g9 g10 g11 g12 g13 g14 g15 g16 g17 r0 r1 r2 r3 x3 x4 x5 1
def bX_commandsOfControl_139 (g4 g5 g6 g7 g8 g9 g10 g11 g12 g13 g14 g15 g16 g17 : Int32) (r0 r1 r2 r3 : Nat → Int32) (x2 : Int32) (x3 : Int32) (x4 : Int32) (x5 : Int32) : Int32 × SX := if x2 = 0 then bX_commandsOfControl_147 g4 g5 g6 g7 g8 g9 g10 g11 g12 g13 g14 g15 g16 g17 r0 r1 r2 r3 x3 x4 x5 else bX_commandsOfControl_143 g4 g5 g6 g7 g8 g9 g10 g11 g12 g13 g14 g15 g16 g17 r0 r1 r2 r3 x3 x4 x5
def bX_commandsOfControl_127 (g4 g5 g6 g7 g8 g9 g10 g11 g12 g13 g14 g15 g16 g17 : Int32) (r0 r1 r2 r3 : Nat → Int32) (x2 : Int32) (x3 : Int32) (x4 : Int32) (x5 : Int32) : Int32 × SX := bX_commandsOfControl_139 g4 g5 g6 g7 g8 g9 (g10 + 500) g11 g12 g13 g14 g15 g16 g17 r0 r1 r2 r3 x2 x3 x4 x5
def bX_commandsOfControl_122 (g4 g5 g6 g7 g8 g9 g10 g11 g12 g13 g14 g15 g16 g17 : Int32) (r0 r1 r2 r3 : Nat → Int32) (x2 : Int32) (x3 : Int32) (x4 : Int32) (x5 : Int32) : Int32 × SX := if x5 = 0 then bX_commandsOfControl_139 g4 g5 g6 g7 g8 g9 g10 g11 g12 g13 g14 g15 g16 g17 r0 r1 r2 r3 x2 x3 x4 x5 else bX_commandsOfControl_127 g4 g5 g6 g7 g8 g9 g10 g11 g12 g13 g14 g15 g16 g17 r0 r1 r2 r3 x2 x3 x4 x5
def bX_commandsOfControl_106 (g4 g5 g6 g7 g8 g9 g10 g11 g12 g13 g14 g15 g16 g17 : Int32) (r0 r1 r2 r3 : Nat → Int32) (x2 : Int32) (x3 : Int32) (x4 : Int32) : Int32 × SX := bX_commandsOfControl_122 g4 g5 g6 g7 g8 (g9 + 1) g10 g11 g12 g13 g14 g15 g16 g17 r0 r1 r2 r3 x2 x3 x4 (sX_isStrokeWanted g4 g5 g6 g7 g8 (g9 + 1) g10 g11 g12 g13 g14 g15 g16 g17 r0 r1 r2 r3)
def bX_commandsOfControl_101 (g4 g5 g6 g7 g8 g9 g10 g11 g12 g13 g14 g15 g16 g17 : Int32) (r0 r1 r2 r3 : Nat → Int32) (x2 : Int32) (x3 : Int32) (x4 : Int32) (x5 : Int32) : Int32 × SX := if x4 = 0 then bX_commandsOfControl_106 g4 g5 g6 g7 g8 g9 g10 g11 g12 g13 g14 g15 g16 g17 r0 r1 r2 r3 x2 x3 x4 else bX_commandsOfControl_122 g4 g5 g6 g7 g8 g9 g10 g11 g12 g13 g14 g15 g16 g17 r0 r1 r2 r3 x2 x3 x4 x5
def bX_commandsOfControl_92 (g4 g5 g6 g7 g8 g9 g10 g11 g12 g13 g14 g15 g16 g17 : Int32) (r0 r1 r2 r3 : Nat → Int32) (x2 : Int32) (x3 : Int32) (y0 : Int32) : Int32 × SX := if x2 = 0 then bX_commandsOfControl_122 g4 g5 g6 g7 g8 g9 g10 g11 g12 g13 g14 g15 g16 g17 r0 r1 r2 r3 x2 x3 y0 0 else bX_commandsOfControl_101 g4 g5 g6 g7 g8 g9 g10 g11 g12 g13 g14 g15 g16 g17 r0 r1 r2 r3 x2 x3 y0 0
def bX_commandsOfControl_91 (g4 g5 g6 g7 g8 g9 g10 g11 g12 g13 g14 g15 g16 g17 : Int32) (r0 r1 r2 r3 : Nat → Int32) (x2 : Int32) (x3 : Int32) : Int32 × SX := bX_commandsOfControl_92 g4 g5 g6 g7 g8 g9 g10 g11 g12 g13 g14 g15 g16 g17 r0 r1 r2 r3 x2 x3 0
def bX_commandsOfControl_87 (g4 g5 g6 g7 g8 g9 g10 g11 g12 g13 g14 g15 g16 g17 : Int32) (r0 r1 r2 r3 : Nat → Int32) (x2 : Int32) (x3 : Int32) : Int32 × SX := bX_commandsOfControl_92 g4 g5 g6 g7 g8 g9 g10 g11 g12 g13 g14 g15 g16 g17 r0 r1 r2 r3 x2 x3 1
def bX_commandsOfControl_77 (g4 g5 g6 g7 g8 g9 g10 g11 g12 g13 g14 g15 g16 g17 : Int32) (r0 r1 r2 r3 : Nat → Int32) (x2 : Int32) (x3 : Int32) : Int32 × SX := if (g5 &&& 8) = 0 then bX_commandsOfControl_91 g4 g5 g6 g7 g8 g9 g10 g11 g12 g13 g14 g15 g16 g17 r0 r1 r2 r3 x2 x3 else bX_commandsOfControl_87 g4 g5 g6 g7 g8 g9 g10 g11 g12 g13 g14 g15 g16 g17 r0 r1 r2 r3 x2 x3
def bX_commandsOfControl_70 (g4 g5 g6 g7 g8 g9 g10 g11 g12 g13 g14 g15 g16 g17 : Int32) (r0 r1 r2 r3 : Nat → Int32) (x2 : Int32) (x3 : Int32) : Int32 × SX := if 0 < g15 then bX_commandsOfControl_87 g4 g5 g6 g7 g8 g9 g10 g11 g12 g13 g14 g15 g16 g17 r0 r1 r2 r3 x2 x3 else bX_commandsOfControl_77 g4 g5 g6 g7 g8 g9 g10 g11 g12 g13 g14 g15 g16 g17 r0 r1 r2 r3 x2 x3
def bX_commandsOfControl_61 (g4 g5 g6 g7 g8 g9 g10 g11 g12 g13 g14 g15 g16 g17 : Int32) (r0 r1 r2 r3 : Nat → Int32) (x2 : Int32) (y0 : Int32) : Int32 × SX := if g4 = 3 then bX_commandsOfControl_70 g4 g5 g6 g7 g8 g9 g10 g11 g12 g13 g14 g15 g16 g17 r0 r1 r2 r3 x2 y0 else bX_commandsOfControl_87 g4 g5 g6 g7 g8 g9 g10 g11 g12 g13 g14 g15 g16 g17 r0 r1 r2 r3 x2 y0
def bX_commandsOfControl_60 (g4 g5 g6 g7 g8 g9 g10 g11 g12 g13 g14 g15 g16 g17 : Int32) (r0 r1 r2 r3 : Nat → Int32) (x2 : Int32) : Int32 × SX := bX_commandsOfControl_61 g4 g5 g6 g7 g8 g9 g10 g11 g12 g13 g14 g15 g16 g17 r0 r1 r2 r3 x2 0
def bX_commandsOfControl_56 (g4 g5 g6 g7 g8 g9 g10 g11 g12 g13 g14 g15 g16 g17 : Int32) (r0 r1 r2 r3 : Nat → Int32) (x2 : Int32) : Int32 × SX := bX_commandsOfControl_61 g4 g5 g6 g7 g8 g9 g10 g11 g12 g13 g14 g15 g16 g17 r0 r1 r2 r3 x2 1
def bX_commandsOfControl_46 (g4 g5 g6 g7 g8 g9 g10 g11 g12 g13 g14 g15 g16 g17 : Int32) (r0 r1 r2 r3 : Nat → Int32) (x2 : Int32) : Int32 × SX := if (g5 &&& 38) = 0 then bX_commandsOfControl_56 g4 g5 g6 g7 g8 g9 g10 g11 g12 g13 g14 g15 g16 g17 r0 r1 r2 r3 x2 else bX_commandsOfControl_60 g4 g5 g6 g7 g8 g9 g10 g11 g12 g13 g14 g15 g16 g17 r0 r1 r2 r3 x2
def bX_commandsOfControl_41 (g4 g5 g6 g7 g8 g9 g10 g11 g12 g13 g14 g15 g16 g17 : Int32) (r0 r1 r2 r3 : Nat → Int32) (x1 : Int32) (y0 : Int32) : Int32 × SX := if x1 = 0 then bX_commandsOfControl_60 g4 g5 g6 g7 g8 g9 g10 g11 g12 g13 g14 g15 g16 g17 r0 r1 r2 r3 y0 else bX_commandsOfControl_46 g4 g5 g6 g7 g8 g9 g10 g11 g12 g13 g14 g15 g16 g17 r0 r1 r2 r3 y0
def bX_commandsOfControl_40 (g4 g5 g6 g7 g8 g9 g10 g11 g12 g13 g14 g15 g16 g17 : Int32) (r0 r1 r2 r3 : Nat → Int32) (x1 : Int32) : Int32 × SX := bX_commandsOfControl_41 g4 g5 g6 g7 g8 g9 g10 g11 g12 g13 g14 g15 g16 g17 r0 r1 r2 r3 x1 0
def bX_commandsOfControl_36 (g4 g5 g6 g7 g8 g9 g10 g11 g12 g13 g14 g15 g16 g17 : Int32) (r0 r1 r2 r3 : Nat → Int32) (x1 : Int32) : Int32 × SX := bX_commandsOfControl_41 g4 g5 g6 g7 g8 g9 g10 g11 g12 g13 g14 g15 g16 g17 r0 r1 r2 r3 x1 1
def bX_commandsOfControl_26 (g4 g5 g6 g7 g8 g9 g10 g11 g12 g13 g14 g15 g16 g17 : Int32) (r0 r1 r2 r3 : Nat → Int32) (x1 : Int32) : Int32 × SX := if (g5 &&& 47) = 0 then bX_commandsOfControl_36 g4 g5 g6 g7 g8 g9 g10 g11 g12 g13 g14 g15 g16 g17 r0 r1 r2 r3 x1 else bX_commandsOfControl_40 g4 g5 g6 g7 g8 g9 g10 g11 g12 g13 g14 g15 g16 g17 r0 r1 r2 r3 x1
def bX_commandsOfControl_21 (g4 g5 g6 g7 g8 g9 g10 g11 g12 g13 g14 g15 g16 g17 : Int32) (r0 r1 r2 r3 : Nat → Int32) (y0 : Int32) : Int32 × SX := if y0 = 0 then bX_commandsOfControl_40 g4 g5 g6 g7 g8 g9 g10 g11 g12 g13 g14 g15 g16 g17 r0 r1 r2 r3 y0 else bX_commandsOfControl_26 g4 g5 g6 g7 g8 g9 g10 g11 g12 g13 g14 g15 g16 g17 r0 r1 r2 r3 y0
def bX_commandsOfControl_20 (g4 g5 g6 g7 g8 g9 g10 g11 g12 g13 g14 g15 g16 g17 : Int32) (r0 r1 r2 r3 : Nat → Int32) : Int32 × SX := bX_commandsOfControl_21 g4 g5 g6 g7 g8 g9 g10 g11 g12 g13 g14 g15 g16 g17 r0 r1 r2 r3 0
def bX_commandsOfControl_16 (g4 g5 g6 g7 g8 g9 g10 g11 g12 g13 g14 g15 g16 g17 : Int32) (r0 r1 r2 r3 : Nat → Int32) : Int32 × SX := bX_commandsOfControl_21 g4 g5 g6 g7 g8 g9 g10 g11 g12 g13 g14 g15 g16 g17 r0 r1 r2 r3 1
def bX_commandsOfControl_8 (g4 g5 g6 g7 g8 g9 g10 g11 g12 g13 g14 g15 g16 g17 : Int32) (r0 r1 r2 r3 : Nat → Int32) : Int32 × SX := if 4 < g4 then bX_commandsOfControl_20 g4 g5 g6 g7 g8 g9 g10 g11 g12 g13 g14 g15 g16 g17 r0 r1 r2 r3 else bX_commandsOfControl_16 g4 g5 g6 g7 g8 g9 g10 g11 g12 g13 g14 g15 g16 g17 r0 r1 r2 r3
def bX_commandsOfControl_0 (g4 g5 g6 g7 g8 g9 g10 g11 g12 g13 g14 g15 g16 g17 : Int32) (r0 r1 r2 r3 : Nat → Int32) : Int32 × SX := if g4 < 1 then bX_commandsOfControl_20 g4 g5 g6 g7 g8 g9 g10 g11 g12 g13 g14 g15 g16 g17 r0 r1 r2 r3 else bX_commandsOfControl_8 g4 g5 g6 g7 g8 g9 g10 g11 g12 g13 g14 g15 g16 g17 r0 r1 r2 r3
def sX_commandsOfControl (g4 g5 g6 g7 g8 g9 g10 g11 g12 g13 g14 g15 g16 g17 : Int32) (r0 r1 r2 r3 : Nat → Int32) : Int32 × SX := bX_commandsOfControl_0 g4 g5 g6 g7 g8 g9 g10 g11 g12 g13 g14 g15 g16 g17 r0 r1 r2 r3

def bX_isRawDangerous_48 (g4 g5 g6 g7 g8 g9 g10 g11 g12 g13 g14 g15 g16 g17 : Int32) (r0 r1 r2 r3 : Nat → Int32) : Int32 := 0
def bX_isRawDangerous_44 (g4 g5 g6 g7 g8 g9 g10 g11 g12 g13 g14 g15 g16 g17 : Int32) (r0 r1 r2 r3 : Nat → Int32) : Int32 := 1
def bX_isRawDangerous_27 (g4 g5 g6 g7 g8 g9 g10 g11 g12 g13 g14 g15 g16 g17 : Int32) (r0 r1 r2 r3 : Nat → Int32) : Int32 := if (sX_isOutside (r1 1) ((-50)) 450) = 0 then bX_isRawDangerous_48 g4 g5 g6 g7 g8 g9 g10 g11 g12 g13 g14 g15 g16 g17 r0 r1 r2 r3 else bX_isRawDangerous_44 g4 g5 g6 g7 g8 g9 g10 g11 g12 g13 g14 g15 g16 g17 r0 r1 r2 r3
def bX_isRawDangerous_9 (g4 g5 g6 g7 g8 g9 g10 g11 g12 g13 g14 g15 g16 g17 : Int32) (r0 r1 r2 r3 : Nat → Int32) : Int32 := if (sX_isOutside (r1 0) ((-350)) 250) = 0 then bX_isRawDangerous_27 g4 g5 g6 g7 g8 g9 g10 g11 g12 g13 g14 g15 g16 g17 r0 r1 r2 r3 else bX_isRawDangerous_44 g4 g5 g6 g7 g8 g9 g10 g11 g12 g13 g14 g15 g16 g17 r0 r1 r2 r3
def bX_isRawDangerous_0 (g4 g5 g6 g7 g8 g9 g10 g11 g12 g13 g14 g15 g16 g17 : Int32) (r0 r1 r2 r3 : Nat → Int32) : Int32 := if (r1 4) = 0 then bX_isRawDangerous_9 g4 g5 g6 g7 g8 g9 g10 g11 g12 g13 g14 g15 g16 g17 r0 r1 r2 r3 else bX_isRawDangerous_44 g4 g5 g6 g7 g8 g9 g10 g11 g12 g13 g14 g15 g16 g17 r0 r1 r2 r3
def sX_isRawDangerous (g4 g5 g6 g7 g8 g9 g10 g11 g12 g13 g14 g15 g16 g17 : Int32) (r0 r1 r2 r3 : Nat → Int32) : Int32 := bX_isRawDangerous_0 g4 g5 g6 g7 g8 g9 g10 g11 g12 g13 g14 g15 g16 g17 r0 r1 r2 r3

def bX_isStrokeTooMuch_31 (g4 g5 g6 g7 g8 g9 g10 g11 g12 g13 g14 g15 g16 g17 : Int32) (r0 r1 r2 r3 : Nat → Int32) : Int32 := 0
def bX_isStrokeTooMuch_27 (g4 g5 g6 g7 g8 g9 g10 g11 g12 g13 g14 g15 g16 g17 : Int32) (r0 r1 r2 r3 : Nat → Int32) : Int32 := 1
def bX_isStrokeTooMuch_0 (g4 g5 g6 g7 g8 g9 g10 g11 g12 g13 g14 g15 g16 g17 : Int32) (r0 r1 r2 r3 : Nat → Int32) : Int32 := if ((g11 + 1) * 500) ≤ (((r0 1) * 1000) + 500) then bX_isStrokeTooMuch_31 g4 g5 g6 g7 g8 g9 g10 g11 g12 g13 g14 g15 g16 g17 r0 r1 r2 r3 else bX_isStrokeTooMuch_27 g4 g5 g6 g7 g8 g9 g10 g11 g12 g13 g14 g15 g16 g17 r0 r1 r2 r3
def sX_isStrokeTooMuch (g4 g5 g6 g7 g8 g9 g10 g11 g12 g13 g14 g15 g16 g17 : Int32) (r0 r1 r2 r3 : Nat → Int32) : Int32 := bX_isStrokeTooMuch_0 g4 g5 g6 g7 g8 g9 g10 g11 g12 g13 g14 g15 g16 g17 r0 r1 r2 r3

def bX_afterProtection_75 (g4 g5 g6 g7 g8 g9 g10 g11 g12 g13 g14 g15 g16 g17 : Int32) (r0 r1 r2 r3 : Nat → Int32) (x2 : Int32) : Int32 × SX := (x2, (g4, g5, g6, g7, g8, g9, g10, g11, g12, g13, g14, g15, g16, g17, r0, r1, r2, r3))
def bX_afterProtection_70 (g4 g5 g6 g7 g8 g9 g10 g11 g12 g13 g14 g15 g16 g17 : Int32) (r0 r1 r2 r3 : Nat → Int32) (x2 : Int32) : Int32 × SX := bX_afterProtection_75 g4 g5 g6 g7 g8 g9 g10 g11 g12 g13 g14 g15 g16 g17 r0 r1 r2 r3 (x2 &&& ((-9)))
def bX_afterProtection_63 (g4 g5 g6 g7 g8 g9 g10 g11 g12 g13 g14 g15 g16 g17 : Int32) (r0 r1 r2 r3 : Nat → Int32) (x2 : Int32) : Int32 × SX := if (sX_isStrokeTooMuch g4 g5 g6 g7 g8 g9 g10 g11 g12 g13 g14 g15 g16 g17 r0 r1 r2 r3) = 0 then bX_afterProtection_75 g4 g5 g6 g7 g8 g9 g10 g11 g12 g13 g14 g15 g16 g17 r0 r1 r2 r3 x2 else bX_afterProtection_70 g4 g5 g6 g7 g8 g9 g10 g11 g12 g13 g14 g15 g16 g17 r0 r1 r2 r3 x2
def bX_afterProtection_55 (g4 g5 g6 g7 g8 g9 g10 g11 g12 g13 g14 g15 g16 g17 : Int32) (r0 r1 r2 r3 : Nat → Int32) (x2 : Int32) : Int32 × SX := if g4 = 3 then bX_afterProtection_63 g4 g5 g6 g7 g8 g9 g10 g11 g12 g13 g14 g15 g16 g17 r0 r1 r2 r3 x2 else bX_afterProtection_70 g4 g5 g6 g7 g8 g9 g10 g11 g12 g13 g14 g15 g16 g17 r0 r1 r2 r3 x2
def bX_afterProtection_51 (g4 g5 g6 g7 g8 g9 g10 g11 g12 g13 g14 g15 g16 g17 : Int32) (r0 r1 r2 r3 : Nat → Int32) (x2 : Int32) : Int32 × SX := bX_afterProtection_55 g4 g5 g6 g7 g8 g9 g10 g11 g12 g13 g14 g15 g16 g17 r0 r1 r2 r3 (x2 ||| 4)
def bX_afterProtection_39 (g4 g5 g6 g7 g8 g9 g10 g11 g12 g13 g14 g15 g16 g17 : Int32) (r0 r1 r2 r3 : Nat → Int32) (x2 : Int32) : Int32 × SX := if (r1 2) ≤ 410 then bX_afterProtection_55 g4 g5 g6 g7 g8 g9 g10 g11 g12 g13 g14 g15 g16 g17 r0 r1 r2 r3 x2 else bX_afterProtection_51 g4 g5 g6 g7 g8 g9 g10 g11 g12 g13 g14 g15 g16 g17 r0 r1 r2 r3 x2
def bX_afterProtection_31 (g4 g5 g6 g7 g8 g9 g10 g11 g12 g13 g14 g15 g16 g17 : Int32) (r0 r1 r2 r3 : Nat → Int32) (x2 : Int32) : Int32 × SX := if g4 = 3 then bX_afterProtection_39 g4 g5 g6 g7 g8 g9 g10 g11 g12 g13 g14 g15 g16 g17 r0 r1 r2 r3 x2 else bX_afterProtection_55 g4 g5 g6 g7 g8 g9 g10 g11 g12 g13 g14 g15 g16 g17 r0 r1 r2 r3 x2
def bX_afterProtection_16 (g4 g5 g6 g7 g8 g9 g10 g11 g12 g13 g14 g15 g16 g17 : Int32) (r0 r1 r2 r3 : Nat → Int32) (x2 : Int32) : Int32 × SX := bX_afterProtection_31 g4 g5 g6 g7 g8 g9 g10 g11 (g12 + 1) g13 g14 g15 g16 g17 r0 r1 r2 r3 (x2 &&& ((-12)))
def bX_afterProtection_9 (g4 g5 g6 g7 g8 g9 g10 g11 g12 g13 g14 g15 g16 g17 : Int32) (r0 r1 r2 r3 : Nat → Int32) (x2 : Int32) : Int32 × SX := if (sX_isRawDangerous g4 g5 g6 g7 g8 g9 g10 g11 g12 g13 g14 g15 g16 g17 r0 r1 r2 r3) = 0 then bX_afterProtection_31 g4 g5 g6 g7 g8 g9 g10 g11 g12 g13 g14 g15 g16 g17 r0 r1 r2 r3 x2 else bX_afterProtection_16 g4 g5 g6 g7 g8 g9 g10 g11 g12 g13 g14 g15 g16 g17 r0 r1 r2 r3 x2
def bX_afterProtection_0 (g4 g5 g6 g7 g8 g9 g10 g11 g12 g13 g14 g15 g16 g17 : Int32) (r0 r1 r2 r3 : Nat → Int32) (x1 : Int32) : Int32 × SX := if (sX_isConnected g4 g5 g6 g7 g8 g9 g10 g11 g12 g13 g14 g15 g16 g17 r0 r1 r2 r3) = 0 then bX_afterProtection_31 g4 g5 g6 g7 g8 g9 g10 g11 g12 g13 g14 g15 g16 g17 r0 r1 r2 r3 x1 else bX_afterProtection_9 g4 g5 g6 g7 g8 g9 g10 g11 g12 g13 g14 g15 g16 g17 r0 r1 r2 r3 x1
def sX_afterProtection (g4 g5 g6 g7 g8 g9 g10 g11 g12 g13 g14 g15 g16 g17 : Int32) (r0 r1 r2 r3 : Nat → Int32) (k1 : Int32) : Int32 × SX := bX_afterProtection_0 g4 g5 g6 g7 g8 g9 g10 g11 g12 g13 g14 g15 g16 g17 r0 r1 r2 r3 k1

def bX_countTowardsEnd_74q  (q : SX) : SX := match q with
  | (g4, g5, g6, g7, g8, g9, g10, g11, g12, g13, g14, g15, g16, g17, r0, r1, r2, r3) => (g4, g5, g6, g7, g8, g9, g10, g11, g12, g13, g14, g15, g16, g17, r0, r1, r2, r3)
def bX_countTowardsEnd_72 (g4 g5 g6 g7 g8 g9 g10 g11 g12 g13 g14 g15 g16 g17 : Int32) (r0 r1 r2 r3 : Nat → Int32) : SX := bX_countTowardsEnd_74q (sX_beginPhase g4 g5 g6 g7 g8 g9 g10 g11 g12 g13 g14 g15 g16 g17 r0 r1 r2 r3 4)
def bX_countTowardsEnd_61 (g4 g5 g6 g7 g8 g9 g10 g11 g12 g13 g14 g15 g16 g17 : Int32) (r0 r1 r2 r3 : Nat → Int32) : SX := if g9 < (sX_ticksOfTreatment g4 g5 g6 g7 g8 g9 g10 g11 g12 g13 g14 g15 g16 g17 r0 r1 r2 r3) then (g4, g5, g6, g7, g8, g9, g10, g11, g12, g13, g14, g15, g16, g17, r0, r1, r2, r3) else bX_countTowardsEnd_72 g4 g5 g6 g7 g8 g9 g10 g11 g12 g13 g14 g15 g16 g17 r0 r1 r2 r3
def bX_countTowardsEnd_53 (g4 g5 g6 g7 g8 g9 g10 g11 g12 g13 g14 g15 g16 g17 : Int32) (r0 r1 r2 r3 : Nat → Int32) : SX := if g4 = 3 then bX_countTowardsEnd_61 g4 g5 g6 g7 g8 g9 g10 g11 g12 g13 g14 g15 g16 g17 r0 r1 r2 r3 else (g4, g5, g6, g7, g8, g9, g10, g11, g12, g13, g14, g15, g16, g17, r0, r1, r2, r3)
def bX_countTowardsEnd_43 (g4 g5 g6 g7 g8 g9 g10 g11 g12 g13 g14 g15 g16 g17 : Int32) (r0 r1 r2 r3 : Nat → Int32) : SX := bX_countTowardsEnd_53 g4 g5 g6 g7 g8 g9 g10 g11 g12 (g13 + 1) g14 g15 g16 g17 r0 r1 r2 r3
def bX_countTowardsEnd_34 (g4 g5 g6 g7 g8 g9 g10 g11 g12 g13 g14 g15 g16 g17 : Int32) (r0 r1 r2 r3 : Nat → Int32) : SX := if (g7 &&& 1) = 0 then bX_countTowardsEnd_53 g4 g5 g6 g7 g8 g9 g10 g11 g12 g13 g14 g15 g16 g17 r0 r1 r2 r3 else bX_countTowardsEnd_43 g4 g5 g6 g7 g8 g9 g10 g11 g12 g13 g14 g15 g16 g17 r0 r1 r2 r3
def bX_countTowardsEnd_30 (g4 g5 g6 g7 g8 g9 g10 g11 g12 g13 g14 g15 g16 g17 : Int32) (r0 r1 r2 r3 : Nat → Int32) (x1 : Int32) : SX := if x1 = 0 then bX_countTowardsEnd_53 g4 g5 g6 g7 g8 g9 g10 g11 g12 g13 g14 g15 g16 g17 r0 r1 r2 r3 else bX_countTowardsEnd_34 g4 g5 g6 g7 g8 g9 g10 g11 g12 g13 g14 g15 g16 g17 r0 r1 r2 r3
def bX_countTowardsEnd_21 (g4 g5 g6 g7 g8 g9 g10 g11 g12 g13 g14 g15 g16 g17 : Int32) (r0 r1 r2 r3 : Nat → Int32) (y0 : Int32) : SX := if g4 = 5 then bX_countTowardsEnd_43 g4 g5 g6 g7 g8 g9 g10 g11 g12 g13 g14 g15 g16 g17 r0 r1 r2 r3 else bX_countTowardsEnd_30 g4 g5 g6 g7 g8 g9 g10 g11 g12 g13 g14 g15 g16 g17 r0 r1 r2 r3 y0
def bX_countTowardsEnd_20 (g4 g5 g6 g7 g8 g9 g10 g11 g12 g13 g14 g15 g16 g17 : Int32) (r0 r1 r2 r3 : Nat → Int32) : SX := bX_countTowardsEnd_21 g4 g5 g6 g7 g8 g9 g10 g11 g12 g13 g14 g15 g16 g17 r0 r1 r2 r3 0
def bX_countTowardsEnd_16 (g4 g5 g6 g7 g8 g9 g10 g11 g12 g13 g14 g15 g16 g17 : Int32) (r0 r1 r2 r3 : Nat → Int32) : SX := bX_countTowardsEnd_21 g4 g5 g6 g7 g8 g9 g10 g11 g12 g13 g14 g15 g16 g17 r0 r1 r2 r3 1
def bX_countTowardsEnd_8 (g4 g5 g6 g7 g8 g9 g10 g11 g12 g13 g14 g15 g16 g17 : Int32) (r0 r1 r2 r3 : Nat → Int32) : SX := if g4 = 4 then bX_countTowardsEnd_16 g4 g5 g6 g7 g8 g9 g10 g11 g12 g13 g14 g15 g16 g17 r0 r1 r2 r3 else bX_countTowardsEnd_20 g4 g5 g6 g7 g8 g9 g10 g11 g12 g13 g14 g15 g16 g17 r0 r1 r2 r3
def bX_countTowardsEnd_0 (g4 g5 g6 g7 g8 g9 g10 g11 g12 g13 g14 g15 g16 g17 : Int32) (r0 r1 r2 r3 : Nat → Int32) : SX := if g4 = 1 then bX_countTowardsEnd_16 g4 g5 g6 g7 g8 g9 g10 g11 g12 g13 g14 g15 g16 g17 r0 r1 r2 r3 else bX_countTowardsEnd_8 g4 g5 g6 g7 g8 g9 g10 g11 g12 g13 g14 g15 g16 g17 r0 r1 r2 r3
def sX_countTowardsEnd (g4 g5 g6 g7 g8 g9 g10 g11 g12 g13 g14 g15 g16 g17 : Int32) (r0 r1 r2 r3 : Nat → Int32) : SX := bX_countTowardsEnd_0 g4 g5 g6 g7 g8 g9 g10 g11 g12 g13 g14 g15 g16 g17 r0 r1 r2 r3

def bX_makeTick_112 (g4 g5 g6 g7 g8 g9 g10 g11 g12 g13 g14 g15 g16 g17 : Int32) (r0 r1 r2 r3 : Nat → Int32) : Int32 × SX := (0, (g4, g5, g6, g7, g8, g9, g10, g11, g12, g13, g14, g15, g16, g17, r0, r1, r2, r3))
def bX_makeTick_108 (g4 g5 g6 g7 g8 g9 g10 g11 g12 g13 g14 g15 g16 g17 : Int32) (r0 r1 r2 r3 : Nat → Int32) : Int32 × SX := (1, (g4, g5, g6, g7, g8, g9, g10, g11, g12, g13, g14, g15, g16, g17, r0, r1, r2, r3))
def bX_makeTick_100 (g4 g5 g6 g7 g8 g9 g10 g11 g12 g13 g14 g15 g16 g17 : Int32) (r0 r1 r2 r3 : Nat → Int32) (x2 : Int32) : Int32 × SX := if g4 = x2 then bX_makeTick_112 g4 g5 g6 g7 g8 g9 g10 g11 g12 g13 g14 g15 g16 g17 r0 r1 r2 r3 else bX_makeTick_108 g4 g5 g6 g7 g8 g9 g10 g11 g12 g13 g14 g15 g16 g17 r0 r1 r2 r3
def bX_makeTick_92 (g4 g5 g6 g7 g8 g9 g10 g11 g12 g13 g14 g15 g16 g17 : Int32) (r0 r1 r2 r3 : Nat → Int32) (x1 : Int32) (x2 : Int32) : Int32 × SX := if g5 = x1 then bX_makeTick_100 g4 g5 g6 g7 g8 g9 g10 g11 g12 g13 g14 g15 g16 g17 r0 r1 r2 r3 x2 else bX_makeTick_108 g4 g5 g6 g7 g8 g9 g10 g11 g12 g13 g14 g15 g16 g17 r0 r1 r2 r3
def bX_makeTick_89q (x1 : Int32) (x2 : Int32) (q : SX) : Int32 × SX := match q with
  | (g4, g5, g6, g7, g8, g9, g10, g11, g12, g13, g14, g15, g16, g17, r0, r1, r2, r3) => bX_makeTick_92 g4 g5 g6 g7 g8 g9 g10 g11 g12 g13 g14 g15 g16 g17 r0 r1 r2 r3 x1 x2
def bX_makeTick_88 (g4 g5 g6 g7 g8 g9 g10 g11 g12 g13 g14 g15 g16 g17 : Int32) (r0 r1 r2 r3 : Nat → Int32) (x1 : Int32) (x2 : Int32) : Int32 × SX := bX_makeTick_89q x1 x2 (sX_countTowardsEnd g4 g5 g6 g7 g8 g9 g10 g11 g12 g13 g14 g15 g16 g17 r0 r1 r2 r3)
def bX_makeTick_78 (g4 g5 g6 g7 g8 g9 g10 g11 g12 g13 g14 g15 g16 g17 : Int32) (r0 r1 r2 r3 : Nat → Int32) (x1 : Int32) (x2 : Int32) : Int32 × SX := bX_makeTick_88 g4 g5 g6 g7 g8 g9 g10 (g11 + 1) g12 g13 g14 g15 g16 g17 r0 r1 r2 r3 x1 x2
def bX_makeTick_65 (g4 g5 g6 g7 g8 g9 g10 g11 g12 g13 g14 g15 g16 g17 : Int32) (r0 r1 r2 r3 : Nat → Int32) (x1 : Int32) (x2 : Int32) (y0 : Int32) : Int32 × SX := if (y0 &&& 8) = 0 then bX_makeTick_88 g4 g5 g6 y0 g8 g9 g10 g11 g12 g13 g14 g15 g16 g17 r0 r1 r2 r3 x1 x2 else bX_makeTick_78 g4 g5 g6 y0 g8 g9 g10 g11 g12 g13 g14 g15 g16 g17 r0 r1 r2 r3 x1 x2
def bX_makeTick_62q (x1 : Int32) (x2 : Int32) (q : Int32 × SX) : Int32 × SX := match q with
  | (y0, g4, g5, g6, g7, g8, g9, g10, g11, g12, g13, g14, g15, g16, g17, r0, r1, r2, r3) => bX_makeTick_65 g4 g5 g6 g7 g8 g9 g10 g11 g12 g13 g14 g15 g16 g17 r0 r1 r2 r3 x1 x2 y0
def bX_makeTick_62 (g4 g5 g6 g7 g8 g9 g10 g11 g12 g13 g14 g15 g16 g17 : Int32) (r0 r1 r2 r3 : Nat → Int32) (x1 : Int32) (x2 : Int32) (y0 : Int32) : Int32 × SX := bX_makeTick_62q x1 x2 (sX_afterProtection g4 g5 g6 g7 g8 g9 g10 g11 g12 g13 g14 g15 g16 g17 r0 r1 r2 r3 y0)
def bX_makeTick_58 (g4 g5 g6 g7 g8 g9 g10 g11 g12 g13 g14 g15 g16 g17 : Int32) (r0 r1 r2 r3 : Nat → Int32) (x1 : Int32) (x2 : Int32) : Int32 × SX := bX_makeTick_62 g4 g5 g6 g7 g8 g9 g10 g11 g12 g13 g14 g15 g16 g17 r0 r1 r2 r3 x1 x2 g8
def bX_makeTick_54 (g4 g5 g6 g7 g8 g9 g10 g11 g12 g13 g14 g15 g16 g17 : Int32) (r0 r1 r2 r3 : Nat → Int32) (x1 : Int32) (x2 : Int32) (x3 : Int32) : Int32 × SX := bX_makeTick_62 g4 g5 g6 g7 g8 g9 g10 g11 g12 g13 g14 g15 g16 g17 r0 r1 r2 r3 x1 x2 x3
def bX_makeTick_43 (g4 g5 g6 g7 g8 g9 g10 g11 g12 g13 g14 g15 g16 g17 : Int32) (r0 r1 r2 r3 : Nat → Int32) (x1 : Int32) (x2 : Int32) (y0 : Int32) : Int32 × SX := if g8 = ((-1)) then bX_makeTick_54 g4 g5 g6 g7 g8 g9 g10 g11 g12 g13 g14 g15 g16 g17 r0 r1 r2 r3 x1 x2 y0 else bX_makeTick_58 g4 g5 g6 g7 g8 g9 g10 g11 g12 g13 g14 g15 g16 g17 r0 r1 r2 r3 x1 x2
def bX_makeTick_40q (x1 : Int32) (x2 : Int32) (q : Int32 × SX) : Int32 × SX := match q with
  | (y0, g4, g5, g6, g7, g8, g9, g10, g11, g12, g13, g14, g15, g16, g17, r0, r1, r2, r3) => bX_makeTick_43 g4 g5 g6 g7 g8 g9 g10 g11 g12 g13 g14 g15 g16 g17 r0 r1 r2 r3 x1 x2 y0
def bX_makeTick_18 (g4 g5 g6 g7 g8 g9 g10 g11 g12 g13 g14 g15 g16 g17 : Int32) (r0 r1 r2 r3 : Nat → Int32) (x1 : Int32) (x2 : Int32) : Int32 × SX := bX_makeTick_40q x1 x2 (sX_commandsOfControl g4 (g5 ||| (sX_conditionsNow g4 g5 g6 g7 g8 g9 g10 g11 g12 g13 g14 g15 g16 g17 r0 r1 r2 r3)) (sX_conditionsNow g4 g5 g6 g7 g8 g9 g10 g11 g12 g13 g14 g15 g16 g17 r0 r1 r2 r3) g7 g8 g9 g10 g11 g12 g13 g14 g15 g16 g17 r0 r1 r2 r3)
def bX_makeTick_15q (x1 : Int32) (x2 : Int32) (q : SX) : Int32 × SX := match q with
  | (g4, g5, g6, g7, g8, g9, g10, g11, g12, g13, g14, g15, g16, g17, r0, r1, r2, r3) => bX_makeTick_18 g4 g5 g6 g7 g8 g9 g10 g11 g12 g13 g14 g15 g16 g17 r0 r1 r2 r3 x1 x2
def bX_makeTick_14 (g4 g5 g6 g7 g8 g9 g10 g11 g12 g13 g14 g15 g16 g17 : Int32) (r0 r1 r2 r3 : Nat → Int32) (x1 : Int32) (x2 : Int32) : Int32 × SX := bX_makeTick_15q x1 x2 (sX_countTicksInARow g4 g5 g6 g7 g8 g9 g10 g11 g12 g13 g14 g15 g16 g17 r0 r1 r2 r3)
def bX_makeTick_11q (x1 : Int32) (x2 : Int32) (q : SX) : Int32 × SX := match q with
  | (g4, g5, g6, g7, g8, g9, g10, g11, g12, g13, g14, g15, g16, g17, r0, r1, r2, r3) => bX_makeTick_14 g4 g5 g6 g7 g8 g9 g10 g11 g12 g13 g14 g15 g16 g17 r0 r1 r2 r3 x1 x2
def bX_makeTick_0 (g4 g5 g6 g7 g8 g9 g10 g11 g12 g13 g14 g15 g16 g17 : Int32) (r0 r1 r2 r3 : Nat → Int32) : Int32 × SX := bX_makeTick_11q g5 g4 (sX_conditionSensors g4 g5 g6 g7 g8 g9 g10 g11 g12 g13 g14 g15 g16 g17 r0 r1 r2 r3)
def sX_makeTick (g4 g5 g6 g7 g8 g9 g10 g11 g12 g13 g14 g15 g16 g17 : Int32) (r0 r1 r2 r3 : Nat → Int32) : Int32 × SX := bX_makeTick_0 g4 g5 g6 g7 g8 g9 g10 g11 g12 g13 g14 g15 g16 g17 r0 r1 r2 r3

def bX_tick_35 (g4 g5 g6 g7 g8 g9 g10 g11 g12 g13 g14 g15 g16 g17 : Int32) (r0 r1 r2 r3 : Nat → Int32) (x1 : Int32) : Int32 × SX := (x1, (g4, g5, g6, g7, g8, g9, g10, g11, g12, g13, g14, g15, g16, g17, r0, r1, r2, r3))
def bX_tick_29 (K : Int32 → Int32 → Int32 → Int32 → Int32 → Int32 → Int32 → Int32 → Int32 → Int32 → Int32 → Int32 → Int32 → Int32 → (Nat → Int32) → (Nat → Int32) → (Nat → Int32) → (Nat → Int32) → Int32 → Int32 → Int32 × SX) (g4 g5 g6 g7 g8 g9 g10 g11 g12 g13 g14 g15 g16 g17 : Int32) (r0 r1 r2 r3 : Nat → Int32) (x1 : Int32) (x2 : Int32) : Int32 × SX := K g4 g5 g6 g7 g8 g9 g10 g11 g12 g13 g14 g15 g16 g17 r0 r1 r2 r3 x1 (x2 + 1)
def bX_tick_27 (K : Int32 → Int32 → Int32 → Int32 → Int32 → Int32 → Int32 → Int32 → Int32 → Int32 → Int32 → Int32 → Int32 → Int32 → (Nat → Int32) → (Nat → Int32) → (Nat → Int32) → (Nat → Int32) → Int32 → Int32 → Int32 × SX) (g4 g5 g6 g7 g8 g9 g10 g11 g12 g13 g14 g15 g16 g17 : Int32) (r0 r1 r2 r3 : Nat → Int32) (x2 : Int32) : Int32 × SX := (x2, (g4, g5, g6, g7, g8, g9, g10, g11, g12, g13, g14, g15, g16, g17, r0, r1, r2, r3))
def bX_tick_24 (K : Int32 → Int32 → Int32 → Int32 → Int32 → Int32 → Int32 → Int32 → Int32 → Int32 → Int32 → Int32 → Int32 → Int32 → (Nat → Int32) → (Nat → Int32) → (Nat → Int32) → (Nat → Int32) → Int32 → Int32 → Int32 × SX) (g4 g5 g6 g7 g8 g9 g10 g11 g12 g13 g14 g15 g16 g17 : Int32) (r0 r1 r2 r3 : Nat → Int32) (x1 : Int32) (x2 : Int32) (y0 : Int32) : Int32 × SX := if y0 = 0 then bX_tick_29 K g4 g5 g6 g7 g8 g9 g10 g11 g12 g13 g14 g15 g16 g17 r0 r1 r2 r3 x1 x2 else bX_tick_27 K g4 g5 g6 g7 g8 g9 g10 g11 g12 g13 g14 g15 g16 g17 r0 r1 r2 r3 x2
def bX_tick_21q (K : Int32 → Int32 → Int32 → Int32 → Int32 → Int32 → Int32 → Int32 → Int32 → Int32 → Int32 → Int32 → Int32 → Int32 → (Nat → Int32) → (Nat → Int32) → (Nat → Int32) → (Nat → Int32) → Int32 → Int32 → Int32 × SX) (x1 : Int32) (x2 : Int32) (q : Int32 × SX) : Int32 × SX := match q with
  | (y0, g4, g5, g6, g7, g8, g9, g10, g11, g12, g13, g14, g15, g16, g17, r0, r1, r2, r3) => bX_tick_24 K g4 g5 g6 g7 g8 g9 g10 g11 g12 g13 g14 g15 g16 g17 r0 r1 r2 r3 x1 x2 y0
def bX_tick_20 (K : Int32 → Int32 → Int32 → Int32 → Int32 → Int32 → Int32 → Int32 → Int32 → Int32 → Int32 → Int32 → Int32 → Int32 → (Nat → Int32) → (Nat → Int32) → (Nat → Int32) → (Nat → Int32) → Int32 → Int32 → Int32 × SX) (g4 g5 g6 g7 g8 g9 g10 g11 g12 g13 g14 g15 g16 g17 : Int32) (r0 r1 r2 r3 : Nat → Int32) (x1 : Int32) (x2 : Int32) : Int32 × SX := bX_tick_21q K x1 x2 (sX_makeTick g4 g5 g6 g7 g8 g9 g10 g11 g12 g13 g14 g15 g16 g17 r0 r1 r2 r3)
def bX_tick_15 : Nat → Int32 → Int32 → Int32 → Int32 → Int32 → Int32 → Int32 → Int32 → Int32 → Int32 → Int32 → Int32 → Int32 → Int32 → (Nat → Int32) → (Nat → Int32) → (Nat → Int32) → (Nat → Int32) → Int32 → Int32 → Int32 × SX
  | 0 => fun g4 g5 g6 g7 g8 g9 g10 g11 g12 g13 g14 g15 g16 g17 r0 r1 r2 r3 x1 x2 => (0, (g4, g5, g6, g7, g8, g9, g10, g11, g12, g13, g14, g15, g16, g17, r0, r1, r2, r3))
  | n + 1 => fun g4 g5 g6 g7 g8 g9 g10 g11 g12 g13 g14 g15 g16 g17 r0 r1 r2 r3 x1 x2 => if x1 < x2 then bX_tick_35 g4 g5 g6 g7 g8 g9 g10 g11 g12 g13 g14 g15 g16 g17 r0 r1 r2 r3 x1 else bX_tick_20 (bX_tick_15 n) g4 g5 g6 g7 g8 g9 g10 g11 g12 g13 g14 g15 g16 g17 r0 r1 r2 r3 x1 x2
theorem bX_tick_15_s (n : Nat) (g4 g5 g6 g7 g8 g9 g10 g11 g12 g13 g14 g15 g16 g17 : Int32) (r0 r1 r2 r3 : Nat → Int32) (x1 : Int32) (x2 : Int32) : bX_tick_15 (n + 1) g4 g5 g6 g7 g8 g9 g10 g11 g12 g13 g14 g15 g16 g17 r0 r1 r2 r3 x1 x2 = if x1 < x2 then bX_tick_35 g4 g5 g6 g7 g8 g9 g10 g11 g12 g13 g14 g15 g16 g17 r0 r1 r2 r3 x1 else bX_tick_20 (bX_tick_15 n) g4 g5 g6 g7 g8 g9 g10 g11 g12 g13 g14 g15 g16 g17 r0 r1 r2 r3 x1 x2 := rfl
def bX_tick_13 (g4 g5 g6 g7 g8 g9 g10 g11 g12 g13 g14 g15 g16 g17 : Int32) (r0 r1 r2 r3 : Nat → Int32) (x1 : Int32) : Int32 × SX := bX_tick_15 601 g4 g5 g6 g7 g8 g9 g10 g11 g12 g13 g14 g15 g16 g17 r0 r1 r2 r3 x1 1
def bX_tick_11 (g4 g5 g6 g7 g8 g9 g10 g11 g12 g13 g14 g15 g16 g17 : Int32) (r0 r1 r2 r3 : Nat → Int32) : Int32 × SX := ((-1), (g4, g5, g6, g7, g8, g9, g10, g11, g12, g13, g14, g15, g16, g17, r0, r1, r2, r3))
def bX_tick_0 (g4 g5 g6 g7 g8 g9 g10 g11 g12 g13 g14 g15 g16 g17 : Int32) (r0 r1 r2 r3 : Nat → Int32) (x1 : Int32) : Int32 × SX := if (sX_isOutside x1 1 600) = 0 then bX_tick_13 g4 g5 g6 g7 g8 g9 g10 g11 g12 g13 g14 g15 g16 g17 r0 r1 r2 r3 x1 else bX_tick_11 g4 g5 g6 g7 g8 g9 g10 g11 g12 g13 g14 g15 g16 g17 r0 r1 r2 r3
def sX_tick (g4 g5 g6 g7 g8 g9 g10 g11 g12 g13 g14 g15 g16 g17 : Int32) (r0 r1 r2 r3 : Nat → Int32) (k1 : Int32) : Int32 × SX := bX_tick_0 g4 g5 g6 g7 g8 g9 g10 g11 g12 g13 g14 g15 g16 g17 r0 r1 r2 r3 k1

def bX_phase_0 (g4 g5 g6 g7 g8 g9 g10 g11 g12 g13 g14 g15 g16 g17 : Int32) (r0 r1 r2 r3 : Nat → Int32) : Int32 := g4
def sX_phase (g4 g5 g6 g7 g8 g9 g10 g11 g12 g13 g14 g15 g16 g17 : Int32) (r0 r1 r2 r3 : Nat → Int32) : Int32 := bX_phase_0 g4 g5 g6 g7 g8 g9 g10 g11 g12 g13 g14 g15 g16 g17 r0 r1 r2 r3

def bX_alarms_0 (g4 g5 g6 g7 g8 g9 g10 g11 g12 g13 g14 g15 g16 g17 : Int32) (r0 r1 r2 r3 : Nat → Int32) : Int32 := g5
def sX_alarms (g4 g5 g6 g7 g8 g9 g10 g11 g12 g13 g14 g15 g16 g17 : Int32) (r0 r1 r2 r3 : Nat → Int32) : Int32 := bX_alarms_0 g4 g5 g6 g7 g8 g9 g10 g11 g12 g13 g14 g15 g16 g17 r0 r1 r2 r3

def bX_conditions_0 (g4 g5 g6 g7 g8 g9 g10 g11 g12 g13 g14 g15 g16 g17 : Int32) (r0 r1 r2 r3 : Nat → Int32) : Int32 := g6
def sX_conditions (g4 g5 g6 g7 g8 g9 g10 g11 g12 g13 g14 g15 g16 g17 : Int32) (r0 r1 r2 r3 : Nat → Int32) : Int32 := bX_conditions_0 g4 g5 g6 g7 g8 g9 g10 g11 g12 g13 g14 g15 g16 g17 r0 r1 r2 r3

def bX_outputs_0 (g4 g5 g6 g7 g8 g9 g10 g11 g12 g13 g14 g15 g16 g17 : Int32) (r0 r1 r2 r3 : Nat → Int32) : Int32 := g7
def sX_outputs (g4 g5 g6 g7 g8 g9 g10 g11 g12 g13 g14 g15 g16 g17 : Int32) (r0 r1 r2 r3 : Nat → Int32) : Int32 := bX_outputs_0 g4 g5 g6 g7 g8 g9 g10 g11 g12 g13 g14 g15 g16 g17 r0 r1 r2 r3

def bX_effective_0 (g4 g5 g6 g7 g8 g9 g10 g11 g12 g13 g14 g15 g16 g17 : Int32) (r0 r1 r2 r3 : Nat → Int32) : Int32 := g9
def sX_effective (g4 g5 g6 g7 g8 g9 g10 g11 g12 g13 g14 g15 g16 g17 : Int32) (r0 r1 r2 r3 : Nat → Int32) : Int32 := bX_effective_0 g4 g5 g6 g7 g8 g9 g10 g11 g12 g13 g14 g15 g16 g17 r0 r1 r2 r3

def bX_accounted_0 (g4 g5 g6 g7 g8 g9 g10 g11 g12 g13 g14 g15 g16 g17 : Int32) (r0 r1 r2 r3 : Nat → Int32) : Int32 := g10
def sX_accounted (g4 g5 g6 g7 g8 g9 g10 g11 g12 g13 g14 g15 g16 g17 : Int32) (r0 r1 r2 r3 : Nat → Int32) : Int32 := bX_accounted_0 g4 g5 g6 g7 g8 g9 g10 g11 g12 g13 g14 g15 g16 g17 r0 r1 r2 r3

def bX_strokes_0 (g4 g5 g6 g7 g8 g9 g10 g11 g12 g13 g14 g15 g16 g17 : Int32) (r0 r1 r2 r3 : Nat → Int32) : Int32 := g11
def sX_strokes (g4 g5 g6 g7 g8 g9 g10 g11 g12 g13 g14 g15 g16 g17 : Int32) (r0 r1 r2 r3 : Nat → Int32) : Int32 := bX_strokes_0 g4 g5 g6 g7 g8 g9 g10 g11 g12 g13 g14 g15 g16 g17 r0 r1 r2 r3

def bX_trips_0 (g4 g5 g6 g7 g8 g9 g10 g11 g12 g13 g14 g15 g16 g17 : Int32) (r0 r1 r2 r3 : Nat → Int32) : Int32 := g12
def sX_trips (g4 g5 g6 g7 g8 g9 g10 g11 g12 g13 g14 g15 g16 g17 : Int32) (r0 r1 r2 r3 : Nat → Int32) : Int32 := bX_trips_0 g4 g5 g6 g7 g8 g9 g10 g11 g12 g13 g14 g15 g16 g17 r0 r1 r2 r3

def bX_counted_0 (g4 g5 g6 g7 g8 g9 g10 g11 g12 g13 g14 g15 g16 g17 : Int32) (r0 r1 r2 r3 : Nat → Int32) : Int32 := g13
def sX_counted (g4 g5 g6 g7 g8 g9 g10 g11 g12 g13 g14 g15 g16 g17 : Int32) (r0 r1 r2 r3 : Nat → Int32) : Int32 := bX_counted_0 g4 g5 g6 g7 g8 g9 g10 g11 g12 g13 g14 g15 g16 g17 r0 r1 r2 r3

def bX_steady_0 (g4 g5 g6 g7 g8 g9 g10 g11 g12 g13 g14 g15 g16 g17 : Int32) (r0 r1 r2 r3 : Nat → Int32) : Int32 := g14
def sX_steady (g4 g5 g6 g7 g8 g9 g10 g11 g12 g13 g14 g15 g16 g17 : Int32) (r0 r1 r2 r3 : Nat → Int32) : Int32 := bX_steady_0 g4 g5 g6 g7 g8 g9 g10 g11 g12 g13 g14 g15 g16 g17 r0 r1 r2 r3
def bM_least_70  : Int32 := 0
def bM_least_64  : Int32 := (-300)
def bM_least_58 (x0 : Int32) : Int32 := if x0 = 7 then bM_least_64 else bM_least_70
def bM_least_52  : Int32 := (-400)
def bM_least_46 (x0 : Int32) : Int32 := if x0 = 6 then bM_least_52 else bM_least_58 x0
def bM_least_40  : Int32 := 1250
def bM_least_35 (x0 : Int32) : Int32 := if x0 = 5 then bM_least_40 else bM_least_46 x0
def bM_least_29  : Int32 := 340
def bM_least_24 (x0 : Int32) : Int32 := if x0 = 4 then bM_least_29 else bM_least_35 x0
def bM_least_20  : Int32 := 1
def bM_least_15 (x0 : Int32) : Int32 := if x0 = 3 then bM_least_20 else bM_least_24 x0
def bM_least_10  : Int32 := 50
def bM_least_4 (x0 : Int32) : Int32 := if x0 = 9 then bM_least_10 else bM_least_15 x0
def bM_least_0 (x0 : Int32) : Int32 := if x0 = 0 then bM_least_10 else bM_least_4 x0
def sM_least (k1 : Int32) : Int32 := bM_least_0 k1

def bM_most_83  : Int32 := 200
def bM_most_77  : Int32 := 500
def bM_most_71 (x0 : Int32) : Int32 := if x0 = 9 then bM_most_77 else bM_most_83
def bM_most_67  : Int32 := 0
def bM_most_61 (x0 : Int32) : Int32 := if x0 = 6 then bM_most_67 else bM_most_71 x0
def bM_most_57 (x1 : Int32) : Int32 := x1
def bM_most_51 (x0 : Int32) (y0 : Int32) : Int32 := if 5 < x0 then bM_most_61 x0 else bM_most_57 y0
def bM_most_48 (x0 : Int32) : Int32 := bM_most_51 x0 1600
def bM_most_42 (x0 : Int32) : Int32 := bM_most_51 x0 390
def bM_most_37 (x0 : Int32) : Int32 := if x0 = 4 then bM_most_42 x0 else bM_most_48 x0
def bM_most_31 (x0 : Int32) : Int32 := bM_most_51 x0 2000
def bM_most_26 (x0 : Int32) : Int32 := if x0 = 2 then bM_most_31 x0 else bM_most_37 x0
def bM_most_20 (x0 : Int32) : Int32 := bM_most_51 x0 6000
def bM_most_15 (x0 : Int32) : Int32 := if x0 = 1 then bM_most_20 x0 else bM_most_26 x0
def bM_most_9 (x0 : Int32) : Int32 := bM_most_51 x0 600
def bM_most_4 (x0 : Int32) : Int32 := if x0 = 3 then bM_most_9 x0 else bM_most_15 x0
def bM_most_0 (x0 : Int32) : Int32 := if x0 = 0 then bM_most_9 x0 else bM_most_4 x0
def sM_most (k1 : Int32) : Int32 := bM_most_0 k1

def bM_consistent_69 (g3 g4 g5 g6 g7 g8 g10 g11 g12 g13 g14 g15 g16 g17 g18 : Int32) (r0 r1 r2 r9 : Nat → Int32) : Int32 := 0
def bM_consistent_65 (g3 g4 g5 g6 g7 g8 g10 g11 g12 g13 g14 g15 g16 g17 g18 : Int32) (r0 r1 r2 r9 : Nat → Int32) : Int32 := 1
def bM_consistent_40 (g3 g4 g5 g6 g7 g8 g10 g11 g12 g13 g14 g15 g16 g17 g18 : Int32) (r0 r1 r2 r9 : Nat → Int32) : Int32 := if ((r0 2) * (r0 3)) < (60 * (r0 1)) then bM_consistent_69 g3 g4 g5 g6 g7 g8 g10 g11 g12 g13 g14 g15 g16 g17 g18 r0 r1 r2 r9 else bM_consistent_65 g3 g4 g5 g6 g7 g8 g10 g11 g12 g13 g14 g15 g16 g17 g18 r0 r1 r2 r9
def bM_consistent_20 (g3 g4 g5 g6 g7 g8 g10 g11 g12 g13 g14 g15 g16 g17 g18 : Int32) (r0 r1 r2 r9 : Nat → Int32) : Int32 := if (r0 9) < ((r0 8) + 20) then bM_consistent_69 g3 g4 g5 g6 g7 g8 g10 g11 g12 g13 g14 g15 g16 g17 g18 r0 r1 r2 r9 else bM_consistent_40 g3 g4 g5 g6 g7 g8 g10 g11 g12 g13 g14 g15 g16 g17 g18 r0 r1 r2 r9
def bM_consistent_0 (g3 g4 g5 g6 g7 g8 g10 g11 g12 g13 g14 g15 g16 g17 g18 : Int32) (r0 r1 r2 r9 : Nat → Int32) : Int32 := if (r0 7) < ((r0 6) + 20) then bM_consistent_69 g3 g4 g5 g6 g7 g8 g10 g11 g12 g13 g14 g15 g16 g17 g18 r0 r1 r2 r9 else bM_consistent_20 g3 g4 g5 g6 g7 g8 g10 g11 g12 g13 g14 g15 g16 g17 g18 r0 r1 r2 r9
def sM_consistent (g3 g4 g5 g6 g7 g8 g10 g11 g12 g13 g14 g15 g16 g17 g18 : Int32) (r0 r1 r2 r9 : Nat → Int32) : Int32 := bM_consistent_0 g3 g4 g5 g6 g7 g8 g10 g11 g12 g13 g14 g15 g16 g17 g18 r0 r1 r2 r9

def bM_isPlausible_92 (g3 g4 g5 g6 g7 g8 g10 g11 g12 g13 g14 g15 g16 g17 g18 : Int32) (r0 r1 r2 r9 : Nat → Int32) : Int32 := 0
def bM_isPlausible_88 (g3 g4 g5 g6 g7 g8 g10 g11 g12 g13 g14 g15 g16 g17 g18 : Int32) (r0 r1 r2 r9 : Nat → Int32) : Int32 := 1
def bM_isPlausible_78 (g3 g4 g5 g6 g7 g8 g10 g11 g12 g13 g14 g15 g16 g17 g18 : Int32) (r0 r1 r2 r9 : Nat → Int32) (x1 : Int32) (x3 : Int32) : Int32 := if x3 < (r1 x1.toNatClampNeg) then bM_isPlausible_92 g3 g4 g5 g6 g7 g8 g10 g11 g12 g13 g14 g15 g16 g17 g18 r0 r1 r2 r9 else bM_isPlausible_88 g3 g4 g5 g6 g7 g8 g10 g11 g12 g13 g14 g15 g16 g17 g18 r0 r1 r2 r9
def bM_isPlausible_67 (g3 g4 g5 g6 g7 g8 g10 g11 g12 g13 g14 g15 g16 g17 g18 : Int32) (r0 r1 r2 r9 : Nat → Int32) (x1 : Int32) (x2 : Int32) (y0 : Int32) : Int32 := if (r1 x1.toNatClampNeg) < x2 then bM_isPlausible_92 g3 g4 g5 g6 g7 g8 g10 g11 g12 g13 g14 g15 g16 g17 g18 r0 r1 r2 r9 else bM_isPlausible_78 g3 g4 g5 g6 g7 g8 g10 g11 g12 g13 g14 g15 g16 g17 g18 r0 r1 r2 r9 x1 y0
def bM_isPlausible_66 (g3 g4 g5 g6 g7 g8 g10 g11 g12 g13 g14 g15 g16 g17 g18 : Int32) (r0 r1 r2 r9 : Nat → Int32) (x1 : Int32) (x2 : Int32) : Int32 := bM_isPlausible_67 g3 g4 g5 g6 g7 g8 g10 g11 g12 g13 g14 g15 g16 g17 g18 r0 r1 r2 r9 x1 x2 1
def bM_isPlausible_60 (g3 g4 g5 g6 g7 g8 g10 g11 g12 g13 g14 g15 g16 g17 g18 : Int32) (r0 r1 r2 r9 : Nat → Int32) (x1 : Int32) (x2 : Int32) : Int32 := bM_isPlausible_67 g3 g4 g5 g6 g7 g8 g10 g11 g12 g13 g14 g15 g16 g17 g18 r0 r1 r2 r9 x1 x2 3000
def bM_isPlausible_55 (g3 g4 g5 g6 g7 g8 g10 g11 g12 g13 g14 g15 g16 g17 g18 : Int32) (r0 r1 r2 r9 : Nat → Int32) (x1 : Int32) (x2 : Int32) : Int32 := if x1 = 3 then bM_isPlausible_60 g3 g4 g5 g6 g7 g8 g10 g11 g12 g13 g14 g15 g16 g17 g18 r0 r1 r2 r9 x1 x2 else bM_isPlausible_66 g3 g4 g5 g6 g7 g8 g10 g11 g12 g13 g14 g15 g16 g17 g18 r0 r1 r2 r9 x1 x2
def bM_isPlausible_49 (g3 g4 g5 g6 g7 g8 g10 g11 g12 g13 g14 g15 g16 g17 g18 : Int32) (r0 r1 r2 r9 : Nat → Int32) (x1 : Int32) (x2 : Int32) : Int32 := bM_isPlausible_67 g3 g4 g5 g6 g7 g8 g10 g11 g12 g13 g14 g15 g16 g17 g18 r0 r1 r2 r9 x1 x2 600
def bM_isPlausible_44 (g3 g4 g5 g6 g7 g8 g10 g11 g12 g13 g14 g15 g16 g17 g18 : Int32) (r0 r1 r2 r9 : Nat → Int32) (x1 : Int32) (x2 : Int32) : Int32 := if x1 = 2 then bM_isPlausible_49 g3 g4 g5 g6 g7 g8 g10 g11 g12 g13 g14 g15 g16 g17 g18 r0 r1 r2 r9 x1 x2 else bM_isPlausible_55 g3 g4 g5 g6 g7 g8 g10 g11 g12 g13 g14 g15 g16 g17 g18 r0 r1 r2 r9 x1 x2
def bM_isPlausible_38 (g3 g4 g5 g6 g7 g8 g10 g11 g12 g13 g14 g15 g16 g17 g18 : Int32) (r0 r1 r2 r9 : Nat → Int32) (x1 : Int32) (x2 : Int32) : Int32 := bM_isPlausible_67 g3 g4 g5 g6 g7 g8 g10 g11 g12 g13 g14 g15 g16 g17 g18 r0 r1 r2 r9 x1 x2 800
def bM_isPlausible_33 (g3 g4 g5 g6 g7 g8 g10 g11 g12 g13 g14 g15 g16 g17 g18 : Int32) (r0 r1 r2 r9 : Nat → Int32) (x1 : Int32) (x2 : Int32) : Int32 := if x1 = 1 then bM_isPlausible_38 g3 g4 g5 g6 g7 g8 g10 g11 g12 g13 g14 g15 g16 g17 g18 r0 r1 r2 r9 x1 x2 else bM_isPlausible_44 g3 g4 g5 g6 g7 g8 g10 g11 g12 g13 g14 g15 g16 g17 g18 r0 r1 r2 r9 x1 x2
def bM_isPlausible_27 (g3 g4 g5 g6 g7 g8 g10 g11 g12 g13 g14 g15 g16 g17 g18 : Int32) (r0 r1 r2 r9 : Nat → Int32) (x1 : Int32) (x2 : Int32) : Int32 := bM_isPlausible_67 g3 g4 g5 g6 g7 g8 g10 g11 g12 g13 g14 g15 g16 g17 g18 r0 r1 r2 r9 x1 x2 500
def bM_isPlausible_22 (g3 g4 g5 g6 g7 g8 g10 g11 g12 g13 g14 g15 g16 g17 g18 : Int32) (r0 r1 r2 r9 : Nat → Int32) (x1 : Int32) (y0 : Int32) : Int32 := if x1 = 0 then bM_isPlausible_27 g3 g4 g5 g6 g7 g8 g10 g11 g12 g13 g14 g15 g16 g17 g18 r0 r1 r2 r9 x1 y0 else bM_isPlausible_33 g3 g4 g5 g6 g7 g8 g10 g11 g12 g13 g14 g15 g16 g17 g18 r0 r1 r2 r9 x1 y0
def bM_isPlausible_21 (g3 g4 g5 g6 g7 g8 g10 g11 g12 g13 g14 g15 g16 g17 g18 : Int32) (r0 r1 r2 r9 : Nat → Int32) (x1 : Int32) : Int32 := bM_isPlausible_22 g3 g4 g5 g6 g7 g8 g10 g11 g12 g13 g14 g15 g16 g17 g18 r0 r1 r2 r9 x1 0
def bM_isPlausible_15 (g3 g4 g5 g6 g7 g8 g10 g11 g12 g13 g14 g15 g16 g17 g18 : Int32) (r0 r1 r2 r9 : Nat → Int32) (x1 : Int32) : Int32 := bM_isPlausible_22 g3 g4 g5 g6 g7 g8 g10 g11 g12 g13 g14 g15 g16 g17 g18 r0 r1 r2 r9 x1 ((-200))
def bM_isPlausible_10 (g3 g4 g5 g6 g7 g8 g10 g11 g12 g13 g14 g15 g16 g17 g18 : Int32) (r0 r1 r2 r9 : Nat → Int32) (x1 : Int32) : Int32 := if x1 = 1 then bM_isPlausible_15 g3 g4 g5 g6 g7 g8 g10 g11 g12 g13 g14 g15 g16 g17 g18 r0 r1 r2 r9 x1 else bM_isPlausible_21 g3 g4 g5 g6 g7 g8 g10 g11 g12 g13 g14 g15 g16 g17 g18 r0 r1 r2 r9 x1
def bM_isPlausible_4 (g3 g4 g5 g6 g7 g8 g10 g11 g12 g13 g14 g15 g16 g17 g18 : Int32) (r0 r1 r2 r9 : Nat → Int32) (x1 : Int32) : Int32 := bM_isPlausible_22 g3 g4 g5 g6 g7 g8 g10 g11 g12 g13 g14 g15 g16 g17 g18 r0 r1 r2 r9 x1 ((-700))
def bM_isPlausible_0 (g3 g4 g5 g6 g7 g8 g10 g11 g12 g13 g14 g15 g16 g17 g18 : Int32) (r0 r1 r2 r9 : Nat → Int32) (x1 : Int32) : Int32 := if x1 = 0 then bM_isPlausible_4 g3 g4 g5 g6 g7 g8 g10 g11 g12 g13 g14 g15 g16 g17 g18 r0 r1 r2 r9 x1 else bM_isPlausible_10 g3 g4 g5 g6 g7 g8 g10 g11 g12 g13 g14 g15 g16 g17 g18 r0 r1 r2 r9 x1
def sM_isPlausible (g3 g4 g5 g6 g7 g8 g10 g11 g12 g13 g14 g15 g16 g17 g18 : Int32) (r0 r1 r2 r9 : Nat → Int32) (k1 : Int32) : Int32 := bM_isPlausible_0 g3 g4 g5 g6 g7 g8 g10 g11 g12 g13 g14 g15 g16 g17 g18 r0 r1 r2 r9 k1

def bM_set_35 (g3 g4 g5 g6 g7 g8 g10 g11 g12 g13 g14 g15 g16 g17 g18 : Int32) (r0 r1 r2 r9 : Nat → Int32) (x1 : Int32) (x2 : Int32) : Int32 × SM := (1, (g3, g4, g5, g6, g7, g8, g10, g11, g12, g13, g14, g15, g16, g17, g18, upd r0 x1.toNatClampNeg x2, r1, r2, r9))
def bM_set_33 (g3 g4 g5 g6 g7 g8 g10 g11 g12 g13 g14 g15 g16 g17 g18 : Int32) (r0 r1 r2 r9 : Nat → Int32) : Int32 × SM := (0, (g3, g4, g5, g6, g7, g8, g10, g11, g12, g13, g14, g15, g16, g17, g18, r0, r1, r2, r9))
def bM_set_25 (g3 g4 g5 g6 g7 g8 g10 g11 g12 g13 g14 g15 g16 g17 g18 : Int32) (r0 r1 r2 r9 : Nat → Int32) (x1 : Int32) (x2 : Int32) : Int32 × SM := if x2 ≤ (sM_most x1) then bM_set_35 g3 g4 g5 g6 g7 g8 g10 g11 g12 g13 g14 g15 g16 g17 g18 r0 r1 r2 r9 x1 x2 else bM_set_33 g3 g4 g5 g6 g7 g8 g10 g11 g12 g13 g14 g15 g16 g17 g18 r0 r1 r2 r9
def bM_set_17 (g3 g4 g5 g6 g7 g8 g10 g11 g12 g13 g14 g15 g16 g17 g18 : Int32) (r0 r1 r2 r9 : Nat → Int32) (x1 : Int32) (x2 : Int32) : Int32 × SM := if x2 < (sM_least x1) then bM_set_33 g3 g4 g5 g6 g7 g8 g10 g11 g12 g13 g14 g15 g16 g17 g18 r0 r1 r2 r9 else bM_set_25 g3 g4 g5 g6 g7 g8 g10 g11 g12 g13 g14 g15 g16 g17 g18 r0 r1 r2 r9 x1 x2
def bM_set_10 (g3 g4 g5 g6 g7 g8 g10 g11 g12 g13 g14 g15 g16 g17 g18 : Int32) (r0 r1 r2 r9 : Nat → Int32) (x1 : Int32) (x2 : Int32) : Int32 × SM := if g3 = 0 then bM_set_17 g3 g4 g5 g6 g7 g8 g10 g11 g12 g13 g14 g15 g16 g17 g18 r0 r1 r2 r9 x1 x2 else bM_set_33 g3 g4 g5 g6 g7 g8 g10 g11 g12 g13 g14 g15 g16 g17 g18 r0 r1 r2 r9
def bM_set_4 (g3 g4 g5 g6 g7 g8 g10 g11 g12 g13 g14 g15 g16 g17 g18 : Int32) (r0 r1 r2 r9 : Nat → Int32) (x1 : Int32) (x2 : Int32) : Int32 × SM := if 9 < x1 then bM_set_33 g3 g4 g5 g6 g7 g8 g10 g11 g12 g13 g14 g15 g16 g17 g18 r0 r1 r2 r9 else bM_set_10 g3 g4 g5 g6 g7 g8 g10 g11 g12 g13 g14 g15 g16 g17 g18 r0 r1 r2 r9 x1 x2
def bM_set_0 (g3 g4 g5 g6 g7 g8 g10 g11 g12 g13 g14 g15 g16 g17 g18 : Int32) (r0 r1 r2 r9 : Nat → Int32) (x1 : Int32) (x2 : Int32) : Int32 × SM := if x1 < 0 then bM_set_33 g3 g4 g5 g6 g7 g8 g10 g11 g12 g13 g14 g15 g16 g17 g18 r0 r1 r2 r9 else bM_set_4 g3 g4 g5 g6 g7 g8 g10 g11 g12 g13 g14 g15 g16 g17 g18 r0 r1 r2 r9 x1 x2
def sM_set (g3 g4 g5 g6 g7 g8 g10 g11 g12 g13 g14 g15 g16 g17 g18 : Int32) (r0 r1 r2 r9 : Nat → Int32) (k1 k2 : Int32) : Int32 × SM := bM_set_0 g3 g4 g5 g6 g7 g8 g10 g11 g12 g13 g14 g15 g16 g17 g18 r0 r1 r2 r9 k1 k2

def bM_parameter_14 (g3 g4 g5 g6 g7 g8 g10 g11 g12 g13 g14 g15 g16 g17 g18 : Int32) (r0 r1 r2 r9 : Nat → Int32) (x1 : Int32) : Int32 := r0 x1.toNatClampNeg
def bM_parameter_10 (g3 g4 g5 g6 g7 g8 g10 g11 g12 g13 g14 g15 g16 g17 g18 : Int32) (r0 r1 r2 r9 : Nat → Int32) : Int32 := 0
def bM_parameter_4 (g3 g4 g5 g6 g7 g8 g10 g11 g12 g13 g14 g15 g16 g17 g18 : Int32) (r0 r1 r2 r9 : Nat → Int32) (x1 : Int32) : Int32 := if x1 ≤ 9 then bM_parameter_14 g3 g4 g5 g6 g7 g8 g10 g11 g12 g13 g14 g15 g16 g17 g18 r0 r1 r2 r9 x1 else bM_parameter_10 g3 g4 g5 g6 g7 g8 g10 g11 g12 g13 g14 g15 g16 g17 g18 r0 r1 r2 r9
def bM_parameter_0 (g3 g4 g5 g6 g7 g8 g10 g11 g12 g13 g14 g15 g16 g17 g18 : Int32) (r0 r1 r2 r9 : Nat → Int32) (x1 : Int32) : Int32 := if x1 < 0 then bM_parameter_10 g3 g4 g5 g6 g7 g8 g10 g11 g12 g13 g14 g15 g16 g17 g18 r0 r1 r2 r9 else bM_parameter_4 g3 g4 g5 g6 g7 g8 g10 g11 g12 g13 g14 g15 g16 g17 g18 r0 r1 r2 r9 x1
def sM_parameter (g3 g4 g5 g6 g7 g8 g10 g11 g12 g13 g14 g15 g16 g17 g18 : Int32) (r0 r1 r2 r9 : Nat → Int32) (k1 : Int32) : Int32 := bM_parameter_0 g3 g4 g5 g6 g7 g8 g10 g11 g12 g13 g14 g15 g16 g17 g18 r0 r1 r2 r9 k1

def bM_sense_11 (g3 g4 g5 g6 g7 g8 g10 g11 g12 g13 g14 g15 g16 g17 g18 : Int32) (r0 r1 r2 r9 : Nat → Int32) (x1 : Int32) (x2 : Int32) : Int32 × SM := (1, (g3, g4, g5, g6, g7, g8, g10, g11, g12, g13, g14, g15, g16, g17, g18, r0, upd r1 x1.toNatClampNeg x2, r2, r9))
def bM_sense_9 (g3 g4 g5 g6 g7 g8 g10 g11 g12 g13 g14 g15 g16 g17 g18 : Int32) (r0 r1 r2 r9 : Nat → Int32) : Int32 × SM := (0, (g3, g4, g5, g6, g7, g8, g10, g11, g12, g13, g14, g15, g16, g17, g18, r0, r1, r2, r9))
def bM_sense_4 (g3 g4 g5 g6 g7 g8 g10 g11 g12 g13 g14 g15 g16 g17 g18 : Int32) (r0 r1 r2 r9 : Nat → Int32) (x1 : Int32) (x2 : Int32) : Int32 × SM := if x1 ≤ 5 then bM_sense_11 g3 g4 g5 g6 g7 g8 g10 g11 g12 g13 g14 g15 g16 g17 g18 r0 r1 r2 r9 x1 x2 else bM_sense_9 g3 g4 g5 g6 g7 g8 g10 g11 g12 g13 g14 g15 g16 g17 g18 r0 r1 r2 r9
def bM_sense_0 (g3 g4 g5 g6 g7 g8 g10 g11 g12 g13 g14 g15 g16 g17 g18 : Int32) (r0 r1 r2 r9 : Nat → Int32) (x1 : Int32) (x2 : Int32) : Int32 × SM := if x1 < 0 then bM_sense_9 g3 g4 g5 g6 g7 g8 g10 g11 g12 g13 g14 g15 g16 g17 g18 r0 r1 r2 r9 else bM_sense_4 g3 g4 g5 g6 g7 g8 g10 g11 g12 g13 g14 g15 g16 g17 g18 r0 r1 r2 r9 x1 x2
def sM_sense (g3 g4 g5 g6 g7 g8 g10 g11 g12 g13 g14 g15 g16 g17 g18 : Int32) (r0 r1 r2 r9 : Nat → Int32) (k1 k2 : Int32) : Int32 × SM := bM_sense_0 g3 g4 g5 g6 g7 g8 g10 g11 g12 g13 g14 g15 g16 g17 g18 r0 r1 r2 r9 k1 k2

def bM_conditioned_13 (g3 g4 g5 g6 g7 g8 g10 g11 g12 g13 g14 g15 g16 g17 g18 : Int32) (r0 r1 r2 r9 : Nat → Int32) (x1 : Int32) : Int32 := r2 x1.toNatClampNeg
def bM_conditioned_9 (g3 g4 g5 g6 g7 g8 g10 g11 g12 g13 g14 g15 g16 g17 g18 : Int32) (r0 r1 r2 r9 : Nat → Int32) : Int32 := 0
def bM_conditioned_4 (g3 g4 g5 g6 g7 g8 g10 g11 g12 g13 g14 g15 g16 g17 g18 : Int32) (r0 r1 r2 r9 : Nat → Int32) (x1 : Int32) : Int32 := if x1 ≤ 5 then bM_conditioned_13 g3 g4 g5 g6 g7 g8 g10 g11 g12 g13 g14 g15 g16 g17 g18 r0 r1 r2 r9 x1 else bM_conditioned_9 g3 g4 g5 g6 g7 g8 g10 g11 g12 g13 g14 g15 g16 g17 g18 r0 r1 r2 r9
def bM_conditioned_0 (g3 g4 g5 g6 g7 g8 g10 g11 g12 g13 g14 g15 g16 g17 g18 : Int32) (r0 r1 r2 r9 : Nat → Int32) (x1 : Int32) : Int32 := if x1 < 0 then bM_conditioned_9 g3 g4 g5 g6 g7 g8 g10 g11 g12 g13 g14 g15 g16 g17 g18 r0 r1 r2 r9 else bM_conditioned_4 g3 g4 g5 g6 g7 g8 g10 g11 g12 g13 g14 g15 g16 g17 g18 r0 r1 r2 r9 x1
def sM_conditioned (g3 g4 g5 g6 g7 g8 g10 g11 g12 g13 g14 g15 g16 g17 g18 : Int32) (r0 r1 r2 r9 : Nat → Int32) (k1 : Int32) : Int32 := bM_conditioned_0 g3 g4 g5 g6 g7 g8 g10 g11 g12 g13 g14 g15 g16 g17 g18 r0 r1 r2 r9 k1

def bM_faulty_28 (g3 g4 g5 g6 g7 g8 g10 g11 g12 g13 g14 g15 g16 g17 g18 : Int32) (r0 r1 r2 r9 : Nat → Int32) : Int32 := 0
def bM_faulty_24 (g3 g4 g5 g6 g7 g8 g10 g11 g12 g13 g14 g15 g16 g17 g18 : Int32) (r0 r1 r2 r9 : Nat → Int32) : Int32 := 1
def bM_faulty_9 (g3 g4 g5 g6 g7 g8 g10 g11 g12 g13 g14 g15 g16 g17 g18 : Int32) (r0 r1 r2 r9 : Nat → Int32) (x1 : Int32) : Int32 := if (g8 - (r9 x1.toNatClampNeg)) < 3 then bM_faulty_28 g3 g4 g5 g6 g7 g8 g10 g11 g12 g13 g14 g15 g16 g17 g18 r0 r1 r2 r9 else bM_faulty_24 g3 g4 g5 g6 g7 g8 g10 g11 g12 g13 g14 g15 g16 g17 g18 r0 r1 r2 r9
def bM_faulty_4 (g3 g4 g5 g6 g7 g8 g10 g11 g12 g13 g14 g15 g16 g17 g18 : Int32) (r0 r1 r2 r9 : Nat → Int32) (x1 : Int32) : Int32 := if 5 < x1 then bM_faulty_28 g3 g4 g5 g6 g7 g8 g10 g11 g12 g13 g14 g15 g16 g17 g18 r0 r1 r2 r9 else bM_faulty_9 g3 g4 g5 g6 g7 g8 g10 g11 g12 g13 g14 g15 g16 g17 g18 r0 r1 r2 r9 x1
def bM_faulty_0 (g3 g4 g5 g6 g7 g8 g10 g11 g12 g13 g14 g15 g16 g17 g18 : Int32) (r0 r1 r2 r9 : Nat → Int32) (x1 : Int32) : Int32 := if x1 < 0 then bM_faulty_28 g3 g4 g5 g6 g7 g8 g10 g11 g12 g13 g14 g15 g16 g17 g18 r0 r1 r2 r9 else bM_faulty_4 g3 g4 g5 g6 g7 g8 g10 g11 g12 g13 g14 g15 g16 g17 g18 r0 r1 r2 r9 x1
def sM_faulty (g3 g4 g5 g6 g7 g8 g10 g11 g12 g13 g14 g15 g16 g17 g18 : Int32) (r0 r1 r2 r9 : Nat → Int32) (k1 : Int32) : Int32 := bM_faulty_0 g3 g4 g5 g6 g7 g8 g10 g11 g12 g13 g14 g15 g16 g17 g18 r0 r1 r2 r9 k1

def bM_enter_15 (g3 g4 g5 g6 g7 g8 g10 g11 g12 g13 g14 g15 g16 g17 g18 : Int32) (r0 r1 r2 r9 : Nat → Int32) : SM := (g3, g4, g5, g6, g7, g8, g10, g11, g12, g13, 0, 0, 0, g17, g18, r0, r1, r2, r9)
def bM_enter_0 (g3 g4 g5 g6 g7 g8 g10 g11 g12 g13 g14 g15 g16 g17 g18 : Int32) (r0 r1 r2 r9 : Nat → Int32) (x1 : Int32) : SM := if x1 = 3 then bM_enter_15 x1 g4 g5 g6 g7 g8 g10 g11 g12 g13 g14 g15 g16 g17 0 r0 r1 r2 r9 else (x1, g4, g5, g6, g7, g8, g10, g11, g12, g13, g14, g15, g16, g17, 0, r0, r1, r2, r9)
def sM_enter (g3 g4 g5 g6 g7 g8 g10 g11 g12 g13 g14 g15 g16 g17 g18 : Int32) (r0 r1 r2 r9 : Nat → Int32) (k1 : Int32) : SM := bM_enter_0 g3 g4 g5 g6 g7 g8 g10 g11 g12 g13 g14 g15 g16 g17 g18 r0 r1 r2 r9 k1

def bM_next_183 (g3 g4 g5 g6 g7 g8 g10 g11 g12 g13 g14 g15 g16 g17 g18 : Int32) (r0 r1 r2 r9 : Nat → Int32) : Int32 × SM := (g3, (g3, g4, g5, g6, g7, g8, g10, g11, g12, g13, g14, g15, g16, g17, g18, r0, r1, r2, r9))
def bM_next_180q  (q : SM) : Int32 × SM := match q with
  | (g3, g4, g5, g6, g7, g8, g10, g11, g12, g13, g14, g15, g16, g17, g18, r0, r1, r2, r9) => bM_next_183 g3 g4 g5 g6 g7 g8 g10 g11 g12 g13 g14 g15 g16 g17 g18 r0 r1 r2 r9
def bM_next_180 (g3 g4 g5 g6 g7 g8 g10 g11 g12 g13 g14 g15 g16 g17 g18 : Int32) (r0 r1 r2 r9 : Nat → Int32) (y0 : Int32) : Int32 × SM := bM_next_180q (sM_enter g3 g4 g5 g6 g7 g8 g10 g11 g12 g13 g14 g15 g16 g17 g18 r0 r1 r2 r9 y0)
def bM_next_174 (g3 g4 g5 g6 g7 g8 g10 g11 g12 g13 g14 g15 g16 g17 g18 : Int32) (r0 r1 r2 r9 : Nat → Int32) : Int32 × SM := bM_next_180 g3 g4 g5 g6 g7 g8 g10 g11 g12 g13 g14 g15 g16 g17 g18 r0 r1 r2 r9 (g3 + 1)
def bM_next_170 (g3 g4 g5 g6 g7 g8 g10 g11 g12 g13 g14 g15 g16 g17 g18 : Int32) (r0 r1 r2 r9 : Nat → Int32) : Int32 × SM := bM_next_180 g3 g4 g5 g6 g7 g8 g10 g11 g12 g13 g14 g15 g16 g17 g18 r0 r1 r2 r9 0
def bM_next_160 (g3 g4 g5 g6 g7 g8 g10 g11 g12 g13 g14 g15 g16 g17 g18 : Int32) (r0 r1 r2 r9 : Nat → Int32) : Int32 × SM := if g3 = 6 then bM_next_170 g3 g4 g5 g6 g7 g8 g10 g11 g12 g13 g14 g15 g16 g17 g18 r0 r1 r2 r9 else bM_next_174 g3 g4 g5 g6 g7 g8 g10 g11 g12 g13 g14 g15 g16 g17 g18 r0 r1 r2 r9
def bM_next_158 (g3 g4 g5 g6 g7 g8 g10 g11 g12 g13 g14 g15 g16 g17 g18 : Int32) (r0 r1 r2 r9 : Nat → Int32) : Int32 × SM := ((-1), (g3, g4, g5, g6, g7, g8, g10, g11, g12, g13, g14, g15, g16, g17, g18, r0, r1, r2, r9))
def bM_next_154 (g3 g4 g5 g6 g7 g8 g10 g11 g12 g13 g14 g15 g16 g17 g18 : Int32) (r0 r1 r2 r9 : Nat → Int32) (x1 : Int32) : Int32 × SM := if x1 = 0 then bM_next_158 g3 g4 g5 g6 g7 g8 g10 g11 g12 g13 g14 g15 g16 g17 g18 r0 r1 r2 r9 else bM_next_160 g3 g4 g5 g6 g7 g8 g10 g11 g12 g13 g14 g15 g16 g17 g18 r0 r1 r2 r9
def bM_next_153 (g3 g4 g5 g6 g7 g8 g10 g11 g12 g13 g14 g15 g16 g17 g18 : Int32) (r0 r1 r2 r9 : Nat → Int32) (y0 : Int32) : Int32 × SM := bM_next_154 g3 g4 g5 g6 g7 g8 g10 g11 g12 g13 g14 g15 g16 g17 g18 r0 r1 r2 r9 y0
def bM_next_152 (g3 g4 g5 g6 g7 g8 g10 g11 g12 g13 g14 g15 g16 g17 g18 : Int32) (r0 r1 r2 r9 : Nat → Int32) : Int32 × SM := bM_next_153 g3 g4 g5 g6 g7 g8 g10 g11 g12 g13 g14 g15 g16 g17 g18 r0 r1 r2 r9 0
def bM_next_148 (g3 g4 g5 g6 g7 g8 g10 g11 g12 g13 g14 g15 g16 g17 g18 : Int32) (r0 r1 r2 r9 : Nat → Int32) : Int32 × SM := bM_next_153 g3 g4 g5 g6 g7 g8 g10 g11 g12 g13 g14 g15 g16 g17 g18 r0 r1 r2 r9 1
def bM_next_139 (g3 g4 g5 g6 g7 g8 g10 g11 g12 g13 g14 g15 g16 g17 g18 : Int32) (r0 r1 r2 r9 : Nat → Int32) : Int32 × SM := if g18 < 30 then bM_next_152 g3 g4 g5 g6 g7 g8 g10 g11 g12 g13 g14 g15 g16 g17 g18 r0 r1 r2 r9 else bM_next_148 g3 g4 g5 g6 g7 g8 g10 g11 g12 g13 g14 g15 g16 g17 g18 r0 r1 r2 r9
def bM_next_131 (g3 g4 g5 g6 g7 g8 g10 g11 g12 g13 g14 g15 g16 g17 g18 : Int32) (r0 r1 r2 r9 : Nat → Int32) (x1 : Int32) : Int32 × SM := if g3 = 5 then bM_next_139 g3 g4 g5 g6 g7 g8 g10 g11 g12 g13 g14 g15 g16 g17 g18 r0 r1 r2 r9 else bM_next_154 g3 g4 g5 g6 g7 g8 g10 g11 g12 g13 g14 g15 g16 g17 g18 r0 r1 r2 r9 x1
def bM_next_130 (g3 g4 g5 g6 g7 g8 g10 g11 g12 g13 g14 g15 g16 g17 g18 : Int32) (r0 r1 r2 r9 : Nat → Int32) (y0 : Int32) : Int32 × SM := bM_next_131 g3 g4 g5 g6 g7 g8 g10 g11 g12 g13 g14 g15 g16 g17 g18 r0 r1 r2 r9 y0
def bM_next_129 (g3 g4 g5 g6 g7 g8 g10 g11 g12 g13 g14 g15 g16 g17 g18 : Int32) (r0 r1 r2 r9 : Nat → Int32) : Int32 × SM := bM_next_130 g3 g4 g5 g6 g7 g8 g10 g11 g12 g13 g14 g15 g16 g17 g18 r0 r1 r2 r9 0
def bM_next_125 (g3 g4 g5 g6 g7 g8 g10 g11 g12 g13 g14 g15 g16 g17 g18 : Int32) (r0 r1 r2 r9 : Nat → Int32) : Int32 × SM := bM_next_130 g3 g4 g5 g6 g7 g8 g10 g11 g12 g13 g14 g15 g16 g17 g18 r0 r1 r2 r9 1
def bM_next_116 (g3 g4 g5 g6 g7 g8 g10 g11 g12 g13 g14 g15 g16 g17 g18 : Int32) (r0 r1 r2 r9 : Nat → Int32) : Int32 × SM := if g18 < 50 then bM_next_129 g3 g4 g5 g6 g7 g8 g10 g11 g12 g13 g14 g15 g16 g17 g18 r0 r1 r2 r9 else bM_next_125 g3 g4 g5 g6 g7 g8 g10 g11 g12 g13 g14 g15 g16 g17 g18 r0 r1 r2 r9
def bM_next_108 (g3 g4 g5 g6 g7 g8 g10 g11 g12 g13 g14 g15 g16 g17 g18 : Int32) (r0 r1 r2 r9 : Nat → Int32) (x1 : Int32) : Int32 × SM := if g3 = 4 then bM_next_116 g3 g4 g5 g6 g7 g8 g10 g11 g12 g13 g14 g15 g16 g17 g18 r0 r1 r2 r9 else bM_next_131 g3 g4 g5 g6 g7 g8 g10 g11 g12 g13 g14 g15 g16 g17 g18 r0 r1 r2 r9 x1
def bM_next_107 (g3 g4 g5 g6 g7 g8 g10 g11 g12 g13 g14 g15 g16 g17 g18 : Int32) (r0 r1 r2 r9 : Nat → Int32) (y0 : Int32) : Int32 × SM := bM_next_108 g3 g4 g5 g6 g7 g8 g10 g11 g12 g13 g14 g15 g16 g17 g18 r0 r1 r2 r9 y0
def bM_next_106 (g3 g4 g5 g6 g7 g8 g10 g11 g12 g13 g14 g15 g16 g17 g18 : Int32) (r0 r1 r2 r9 : Nat → Int32) : Int32 × SM := bM_next_107 g3 g4 g5 g6 g7 g8 g10 g11 g12 g13 g14 g15 g16 g17 g18 r0 r1 r2 r9 0
def bM_next_102 (g3 g4 g5 g6 g7 g8 g10 g11 g12 g13 g14 g15 g16 g17 g18 : Int32) (r0 r1 r2 r9 : Nat → Int32) : Int32 × SM := bM_next_107 g3 g4 g5 g6 g7 g8 g10 g11 g12 g13 g14 g15 g16 g17 g18 r0 r1 r2 r9 1
def bM_next_95 (g3 g4 g5 g6 g7 g8 g10 g11 g12 g13 g14 g15 g16 g17 g18 : Int32) (r0 r1 r2 r9 : Nat → Int32) : Int32 × SM := if g4 = 0 then bM_next_102 g3 g4 g5 g6 g7 g8 g10 g11 g12 g13 g14 g15 g16 g17 g18 r0 r1 r2 r9 else bM_next_106 g3 g4 g5 g6 g7 g8 g10 g11 g12 g13 g14 g15 g16 g17 g18 r0 r1 r2 r9
def bM_next_87 (g3 g4 g5 g6 g7 g8 g10 g11 g12 g13 g14 g15 g16 g17 g18 : Int32) (r0 r1 r2 r9 : Nat → Int32) (x1 : Int32) : Int32 × SM := if g3 = 2 then bM_next_95 g3 g4 g5 g6 g7 g8 g10 g11 g12 g13 g14 g15 g16 g17 g18 r0 r1 r2 r9 else bM_next_108 g3 g4 g5 g6 g7 g8 g10 g11 g12 g13 g14 g15 g16 g17 g18 r0 r1 r2 r9 x1
def bM_next_86 (g3 g4 g5 g6 g7 g8 g10 g11 g12 g13 g14 g15 g16 g17 g18 : Int32) (r0 r1 r2 r9 : Nat → Int32) (y0 : Int32) : Int32 × SM := bM_next_87 g3 g4 g5 g6 g7 g8 g10 g11 g12 g13 g14 g15 g16 g17 g18 r0 r1 r2 r9 y0
def bM_next_85 (g3 g4 g5 g6 g7 g8 g10 g11 g12 g13 g14 g15 g16 g17 g18 : Int32) (r0 r1 r2 r9 : Nat → Int32) : Int32 × SM := bM_next_86 g3 g4 g5 g6 g7 g8 g10 g11 g12 g13 g14 g15 g16 g17 g18 r0 r1 r2 r9 0
def bM_next_81 (g3 g4 g5 g6 g7 g8 g10 g11 g12 g13 g14 g15 g16 g17 g18 : Int32) (r0 r1 r2 r9 : Nat → Int32) : Int32 × SM := bM_next_86 g3 g4 g5 g6 g7 g8 g10 g11 g12 g13 g14 g15 g16 g17 g18 r0 r1 r2 r9 1
def bM_next_72 (g3 g4 g5 g6 g7 g8 g10 g11 g12 g13 g14 g15 g16 g17 g18 : Int32) (r0 r1 r2 r9 : Nat → Int32) : Int32 × SM := if g18 < 100 then bM_next_85 g3 g4 g5 g6 g7 g8 g10 g11 g12 g13 g14 g15 g16 g17 g18 r0 r1 r2 r9 else bM_next_81 g3 g4 g5 g6 g7 g8 g10 g11 g12 g13 g14 g15 g16 g17 g18 r0 r1 r2 r9
def bM_next_64 (g3 g4 g5 g6 g7 g8 g10 g11 g12 g13 g14 g15 g16 g17 g18 : Int32) (r0 r1 r2 r9 : Nat → Int32) (x1 : Int32) : Int32 × SM := if g3 = 1 then bM_next_72 g3 g4 g5 g6 g7 g8 g10 g11 g12 g13 g14 g15 g16 g17 g18 r0 r1 r2 r9 else bM_next_87 g3 g4 g5 g6 g7 g8 g10 g11 g12 g13 g14 g15 g16 g17 g18 r0 r1 r2 r9 x1
def bM_next_63 (g3 g4 g5 g6 g7 g8 g10 g11 g12 g13 g14 g15 g16 g17 g18 : Int32) (r0 r1 r2 r9 : Nat → Int32) (y0 : Int32) : Int32 × SM := bM_next_64 g3 g4 g5 g6 g7 g8 g10 g11 g12 g13 g14 g15 g16 g17 g18 r0 r1 r2 r9 y0
def bM_next_62 (g3 g4 g5 g6 g7 g8 g10 g11 g12 g13 g14 g15 g16 g17 g18 : Int32) (r0 r1 r2 r9 : Nat → Int32) : Int32 × SM := bM_next_63 g3 g4 g5 g6 g7 g8 g10 g11 g12 g13 g14 g15 g16 g17 g18 r0 r1 r2 r9 0
def bM_next_58 (g3 g4 g5 g6 g7 g8 g10 g11 g12 g13 g14 g15 g16 g17 g18 : Int32) (r0 r1 r2 r9 : Nat → Int32) : Int32 × SM := bM_next_63 g3 g4 g5 g6 g7 g8 g10 g11 g12 g13 g14 g15 g16 g17 g18 r0 r1 r2 r9 1
def bM_next_51 (g3 g4 g5 g6 g7 g8 g10 g11 g12 g13 g14 g15 g16 g17 g18 : Int32) (r0 r1 r2 r9 : Nat → Int32) : Int32 × SM := if g4 = 0 then bM_next_58 g3 g4 g5 g6 g7 g8 g10 g11 g12 g13 g14 g15 g16 g17 g18 r0 r1 r2 r9 else bM_next_62 g3 g4 g5 g6 g7 g8 g10 g11 g12 g13 g14 g15 g16 g17 g18 r0 r1 r2 r9
def bM_next_37 (g3 g4 g5 g6 g7 g8 g10 g11 g12 g13 g14 g15 g16 g17 g18 : Int32) (r0 r1 r2 r9 : Nat → Int32) : Int32 × SM := if (g8 - g13) < 20 then bM_next_62 g3 g4 g5 g6 g7 g8 g10 g11 g12 g13 g14 g15 g16 g17 g18 r0 r1 r2 r9 else bM_next_51 g3 g4 g5 g6 g7 g8 g10 g11 g12 g13 g14 g15 g16 g17 g18 r0 r1 r2 r9
def bM_next_30 (g3 g4 g5 g6 g7 g8 g10 g11 g12 g13 g14 g15 g16 g17 g18 : Int32) (r0 r1 r2 r9 : Nat → Int32) : Int32 × SM := if (sM_consistent g3 g4 g5 g6 g7 g8 g10 g11 g12 g13 g14 g15 g16 g17 g18 r0 r1 r2 r9) = 0 then bM_next_62 g3 g4 g5 g6 g7 g8 g10 g11 g12 g13 g14 g15 g16 g17 g18 r0 r1 r2 r9 else bM_next_37 g3 g4 g5 g6 g7 g8 g10 g11 g12 g13 g14 g15 g16 g17 g18 r0 r1 r2 r9
def bM_next_22 (g3 g4 g5 g6 g7 g8 g10 g11 g12 g13 g14 g15 g16 g17 g18 : Int32) (r0 r1 r2 r9 : Nat → Int32) (y0 : Int32) : Int32 × SM := if g3 = 0 then bM_next_30 g3 g4 g5 g6 g7 g8 g10 g11 g12 g13 g14 g15 g16 g17 g18 r0 r1 r2 r9 else bM_next_64 g3 g4 g5 g6 g7 g8 g10 g11 g12 g13 g14 g15 g16 g17 g18 r0 r1 r2 r9 y0
def bM_next_21 (g3 g4 g5 g6 g7 g8 g10 g11 g12 g13 g14 g15 g16 g17 g18 : Int32) (r0 r1 r2 r9 : Nat → Int32) : Int32 × SM := bM_next_22 g3 g4 g5 g6 g7 g8 g10 g11 g12 g13 g14 g15 g16 g17 g18 r0 r1 r2 r9 0
def bM_next_17 (g3 g4 g5 g6 g7 g8 g10 g11 g12 g13 g14 g15 g16 g17 g18 : Int32) (r0 r1 r2 r9 : Nat → Int32) : Int32 × SM := bM_next_22 g3 g4 g5 g6 g7 g8 g10 g11 g12 g13 g14 g15 g16 g17 g18 r0 r1 r2 r9 1
def bM_next_8 (g3 g4 g5 g6 g7 g8 g10 g11 g12 g13 g14 g15 g16 g17 g18 : Int32) (r0 r1 r2 r9 : Nat → Int32) : Int32 × SM := if g3 = 6 then bM_next_17 g3 g4 g5 g6 g7 g8 g10 g11 g12 g13 g14 g15 g16 g17 g18 r0 r1 r2 r9 else bM_next_21 g3 g4 g5 g6 g7 g8 g10 g11 g12 g13 g14 g15 g16 g17 g18 r0 r1 r2 r9
def bM_next_0 (g3 g4 g5 g6 g7 g8 g10 g11 g12 g13 g14 g15 g16 g17 g18 : Int32) (r0 r1 r2 r9 : Nat → Int32) : Int32 × SM := if g3 = 3 then bM_next_17 g3 g4 g5 g6 g7 g8 g10 g11 g12 g13 g14 g15 g16 g17 g18 r0 r1 r2 r9 else bM_next_8 g3 g4 g5 g6 g7 g8 g10 g11 g12 g13 g14 g15 g16 g17 g18 r0 r1 r2 r9
def sM_next (g3 g4 g5 g6 g7 g8 g10 g11 g12 g13 g14 g15 g16 g17 g18 : Int32) (r0 r1 r2 r9 : Nat → Int32) : Int32 × SM := bM_next_0 g3 g4 g5 g6 g7 g8 g10 g11 g12 g13 g14 g15 g16 g17 g18 r0 r1 r2 r9

def bM_acknowledge_0 (g3 g4 g5 g6 g7 g8 g10 g11 g12 g13 g14 g15 g16 g17 g18 : Int32) (r0 r1 r2 r9 : Nat → Int32) : Int32 × SM := (g4 &&& g5, (g3, g4 &&& g5, g5, g6, g7, g8, g10, g11, g12, g13, g14, g15, g16, g17, g18, r0, r1, r2, r9))
def sM_acknowledge (g3 g4 g5 g6 g7 g8 g10 g11 g12 g13 g14 g15 g16 g17 g18 : Int32) (r0 r1 r2 r9 : Nat → Int32) : Int32 × SM := bM_acknowledge_0 g3 g4 g5 g6 g7 g8 g10 g11 g12 g13 g14 g15 g16 g17 g18 r0 r1 r2 r9

def bM_substitute_13 (g3 g4 g5 g6 g7 g8 g10 g11 g12 g13 g14 g15 g16 g17 g18 : Int32) (r0 r1 r2 r9 : Nat → Int32) (x1 : Int32) : Int32 × SM := (1, (g3, g4, g5, g6, x1, g8, g10, g11, g12, g13, g14, g15, g16, g17, g18, r0, r1, r2, r9))
def bM_substitute_11 (g3 g4 g5 g6 g7 g8 g10 g11 g12 g13 g14 g15 g16 g17 g18 : Int32) (r0 r1 r2 r9 : Nat → Int32) : Int32 × SM := (0, (g3, g4, g5, g6, g7, g8, g10, g11, g12, g13, g14, g15, g16, g17, g18, r0, r1, r2, r9))
def bM_substitute_5 (g3 g4 g5 g6 g7 g8 g10 g11 g12 g13 g14 g15 g16 g17 g18 : Int32) (r0 r1 r2 r9 : Nat → Int32) (x1 : Int32) : Int32 × SM := if x1 ≤ 15 then bM_substitute_13 g3 g4 g5 g6 g7 g8 g10 g11 g12 g13 g14 g15 g16 g17 g18 r0 r1 r2 r9 x1 else bM_substitute_11 g3 g4 g5 g6 g7 g8 g10 g11 g12 g13 g14 g15 g16 g17 g18 r0 r1 r2 r9
def bM_substitute_0 (g3 g4 g5 g6 g7 g8 g10 g11 g12 g13 g14 g15 g16 g17 g18 : Int32) (r0 r1 r2 r9 : Nat → Int32) (x1 : Int32) : Int32 × SM := if x1 < ((-1)) then bM_substitute_11 g3 g4 g5 g6 g7 g8 g10 g11 g12 g13 g14 g15 g16 g17 g18 r0 r1 r2 r9 else bM_substitute_5 g3 g4 g5 g6 g7 g8 g10 g11 g12 g13 g14 g15 g16 g17 g18 r0 r1 r2 r9 x1
def sM_substitute (g3 g4 g5 g6 g7 g8 g10 g11 g12 g13 g14 g15 g16 g17 g18 : Int32) (r0 r1 r2 r9 : Nat → Int32) (k1 : Int32) : Int32 × SM := bM_substitute_0 g3 g4 g5 g6 g7 g8 g10 g11 g12 g13 g14 g15 g16 g17 g18 r0 r1 r2 r9 k1

def bM_onPatient_20 (g3 g4 g5 g6 g7 g8 g10 g11 g12 g13 g14 g15 g16 g17 g18 : Int32) (r0 r1 r2 r9 : Nat → Int32) : Int32 := 0
def bM_onPatient_16 (g3 g4 g5 g6 g7 g8 g10 g11 g12 g13 g14 g15 g16 g17 g18 : Int32) (r0 r1 r2 r9 : Nat → Int32) : Int32 := 1
def bM_onPatient_8 (g3 g4 g5 g6 g7 g8 g10 g11 g12 g13 g14 g15 g16 g17 g18 : Int32) (r0 r1 r2 r9 : Nat → Int32) : Int32 := if 4 < g3 then bM_onPatient_20 g3 g4 g5 g6 g7 g8 g10 g11 g12 g13 g14 g15 g16 g17 g18 r0 r1 r2 r9 else bM_onPatient_16 g3 g4 g5 g6 g7 g8 g10 g11 g12 g13 g14 g15 g16 g17 g18 r0 r1 r2 r9
def bM_onPatient_0 (g3 g4 g5 g6 g7 g8 g10 g11 g12 g13 g14 g15 g16 g17 g18 : Int32) (r0 r1 r2 r9 : Nat → Int32) : Int32 := if g3 < 2 then bM_onPatient_20 g3 g4 g5 g6 g7 g8 g10 g11 g12 g13 g14 g15 g16 g17 g18 r0 r1 r2 r9 else bM_onPatient_8 g3 g4 g5 g6 g7 g8 g10 g11 g12 g13 g14 g15 g16 g17 g18 r0 r1 r2 r9
def sM_onPatient (g3 g4 g5 g6 g7 g8 g10 g11 g12 g13 g14 g15 g16 g17 g18 : Int32) (r0 r1 r2 r9 : Nat → Int32) : Int32 := bM_onPatient_0 g3 g4 g5 g6 g7 g8 g10 g11 g12 g13 g14 g15 g16 g17 g18 r0 r1 r2 r9

def bM_off_55 (g3 g4 g5 g6 g7 g8 g10 g11 g12 g13 g14 g15 g16 g17 g18 : Int32) (r0 r1 r2 r9 : Nat → Int32) : Int32 := 0
def bM_off_51 (g3 g4 g5 g6 g7 g8 g10 g11 g12 g13 g14 g15 g16 g17 g18 : Int32) (r0 r1 r2 r9 : Nat → Int32) : Int32 := 1
def bM_off_45 (g3 g4 g5 g6 g7 g8 g10 g11 g12 g13 g14 g15 g16 g17 g18 : Int32) (r0 r1 r2 r9 : Nat → Int32) (x2 : Int32) : Int32 := if ((-40)) ≤ x2 then bM_off_55 g3 g4 g5 g6 g7 g8 g10 g11 g12 g13 g14 g15 g16 g17 g18 r0 r1 r2 r9 else bM_off_51 g3 g4 g5 g6 g7 g8 g10 g11 g12 g13 g14 g15 g16 g17 g18 r0 r1 r2 r9
def bM_off_39 (g3 g4 g5 g6 g7 g8 g10 g11 g12 g13 g14 g15 g16 g17 g18 : Int32) (r0 r1 r2 r9 : Nat → Int32) (x2 : Int32) : Int32 := if 40 < x2 then bM_off_51 g3 g4 g5 g6 g7 g8 g10 g11 g12 g13 g14 g15 g16 g17 g18 r0 r1 r2 r9 else bM_off_45 g3 g4 g5 g6 g7 g8 g10 g11 g12 g13 g14 g15 g16 g17 g18 r0 r1 r2 r9 x2
def bM_off_33 (g3 g4 g5 g6 g7 g8 g10 g11 g12 g13 g14 g15 g16 g17 g18 : Int32) (r0 r1 r2 r9 : Nat → Int32) (x1 : Int32) (x2 : Int32) : Int32 := if x1 < ((-5)) then bM_off_51 g3 g4 g5 g6 g7 g8 g10 g11 g12 g13 g14 g15 g16 g17 g18 r0 r1 r2 r9 else bM_off_39 g3 g4 g5 g6 g7 g8 g10 g11 g12 g13 g14 g15 g16 g17 g18 r0 r1 r2 r9 x2
def bM_off_0 (g3 g4 g5 g6 g7 g8 g10 g11 g12 g13 g14 g15 g16 g17 g18 : Int32) (r0 r1 r2 r9 : Nat → Int32) : Int32 := if 5 < ((r2 2) - (r0 4)) then bM_off_51 g3 g4 g5 g6 g7 g8 g10 g11 g12 g13 g14 g15 g16 g17 g18 r0 r1 r2 r9 else bM_off_33 g3 g4 g5 g6 g7 g8 g10 g11 g12 g13 g14 g15 g16 g17 g18 r0 r1 r2 r9 ((r2 2) - (r0 4)) ((r2 3) - (r0 5))
def sM_off (g3 g4 g5 g6 g7 g8 g10 g11 g12 g13 g14 g15 g16 g17 g18 : Int32) (r0 r1 r2 r9 : Nat → Int32) : Int32 := bM_off_0 g3 g4 g5 g6 g7 g8 g10 g11 g12 g13 g14 g15 g16 g17 g18 r0 r1 r2 r9

def bM_outside_14 (g3 g4 g5 g6 g7 g8 g10 g11 g12 g13 g14 g15 g16 g17 g18 : Int32) (r0 r1 r2 r9 : Nat → Int32) : Int32 := 0
def bM_outside_10 (g3 g4 g5 g6 g7 g8 g10 g11 g12 g13 g14 g15 g16 g17 g18 : Int32) (r0 r1 r2 r9 : Nat → Int32) : Int32 := 1
def bM_outside_5 (g3 g4 g5 g6 g7 g8 g10 g11 g12 g13 g14 g15 g16 g17 g18 : Int32) (r0 r1 r2 r9 : Nat → Int32) (x1 : Int32) (x3 : Int32) : Int32 := if x1 ≤ x3 then bM_outside_14 g3 g4 g5 g6 g7 g8 g10 g11 g12 g13 g14 g15 g16 g17 g18 r0 r1 r2 r9 else bM_outside_10 g3 g4 g5 g6 g7 g8 g10 g11 g12 g13 g14 g15 g16 g17 g18 r0 r1 r2 r9
def bM_outside_0 (g3 g4 g5 g6 g7 g8 g10 g11 g12 g13 g14 g15 g16 g17 g18 : Int32) (r0 r1 r2 r9 : Nat → Int32) (x1 : Int32) (x2 : Int32) (x3 : Int32) : Int32 := if x1 < x2 then bM_outside_10 g3 g4 g5 g6 g7 g8 g10 g11 g12 g13 g14 g15 g16 g17 g18 r0 r1 r2 r9 else bM_outside_5 g3 g4 g5 g6 g7 g8 g10 g11 g12 g13 g14 g15 g16 g17 g18 r0 r1 r2 r9 x1 x3
def sM_outside (g3 g4 g5 g6 g7 g8 g10 g11 g12 g13 g14 g15 g16 g17 g18 : Int32) (r0 r1 r2 r9 : Nat → Int32) (k1 k2 k3 : Int32) : Int32 := bM_outside_0 g3 g4 g5 g6 g7 g8 g10 g11 g12 g13 g14 g15 g16 g17 g18 r0 r1 r2 r9 k1 k2 k3

def bM_condition_146 (g3 g4 g5 g6 g7 g8 g10 g11 g12 g13 g14 g15 g16 g17 g18 : Int32) (r0 r1 r2 r9 : Nat → Int32) : SM := (g3, g4, g5, g6, g7, g8, g10, g11, g8, g13, g14, g15, g16, g17, g18, r0, r1, r2, r9)
def bM_condition_135 (g3 g4 g5 g6 g7 g8 g10 g11 g12 g13 g14 g15 g16 g17 g18 : Int32) (r0 r1 r2 r9 : Nat → Int32) : SM := (g3, g4, g5, g6, g7, g8, g10, g11, g12, g8, g14, g15, g16, g17, g18, r0, r1, r2, r9)
def bM_condition_128 (g3 g4 g5 g6 g7 g8 g10 g11 g12 g13 g14 g15 g16 g17 g18 : Int32) (r0 r1 r2 r9 : Nat → Int32) : SM := if (sM_off g3 g4 g5 g6 g7 g8 g10 g11 g12 g13 g14 g15 g16 g17 g18 r0 r1 r2 r9) = 0 then bM_condition_146 g3 g4 g5 g6 g7 g8 g10 g11 g12 g13 g14 g15 g16 g17 g18 r0 r1 r2 r9 else bM_condition_135 g3 g4 g5 g6 g7 g8 g10 g11 g12 g13 g14 g15 g16 g17 g18 r0 r1 r2 r9
def bM_condition_120 (g3 g4 g5 g6 g7 g8 g10 g11 g12 g13 g14 g15 g16 g17 g18 : Int32) (r0 r1 r2 r9 : Nat → Int32) : SM := bM_condition_128 g3 g4 g5 g6 g7 g8 g10 g8 g12 g13 g14 g15 g16 g17 g18 r0 r1 r2 r9
def bM_condition_93 (g3 g4 g5 g6 g7 g8 g10 g11 g12 g13 g14 g15 g16 g17 g18 : Int32) (r0 r1 r2 r9 : Nat → Int32) : SM := if (sM_outside g3 g4 g5 g6 g7 g8 g10 g11 g12 g13 g14 g15 g16 g17 g18 r0 r1 r2 r9 (r2 1) (r0 8) (r0 9)) = 0 then bM_condition_120 g3 g4 g5 g6 g7 g8 g10 g11 g12 g13 g14 g15 g16 g17 g18 r0 r1 r2 r9 else bM_condition_128 g3 g4 g5 g6 g7 g8 g10 g11 g12 g13 g14 g15 g16 g17 g18 r0 r1 r2 r9
def bM_condition_86 (g3 g4 g5 g6 g7 g8 g10 g11 g12 g13 g14 g15 g16 g17 g18 : Int32) (r0 r1 r2 r9 : Nat → Int32) : SM := if (sM_onPatient g3 g4 g5 g6 g7 g8 g10 g11 g12 g13 g14 g15 g16 g17 g18 r0 r1 r2 r9) = 0 then bM_condition_120 g3 g4 g5 g6 g7 g8 g10 g11 g12 g13 g14 g15 g16 g17 g18 r0 r1 r2 r9 else bM_condition_93 g3 g4 g5 g6 g7 g8 g10 g11 g12 g13 g14 g15 g16 g17 g18 r0 r1 r2 r9
def bM_condition_78 (g3 g4 g5 g6 g7 g8 g10 g11 g12 g13 g14 g15 g16 g17 g18 : Int32) (r0 r1 r2 r9 : Nat → Int32) : SM := bM_condition_86 g3 g4 g5 g6 g7 g8 g8 g11 g12 g13 g14 g15 g16 g17 g18 r0 r1 r2 r9
def bM_condition_51 (g3 g4 g5 g6 g7 g8 g10 g11 g12 g13 g14 g15 g16 g17 g18 : Int32) (r0 r1 r2 r9 : Nat → Int32) : SM := if (sM_outside g3 g4 g5 g6 g7 g8 g10 g11 g12 g13 g14 g15 g16 g17 g18 r0 r1 r2 r9 (r2 0) (r0 6) (r0 7)) = 0 then bM_condition_78 g3 g4 g5 g6 g7 g8 g10 g11 g12 g13 g14 g15 g16 g17 g18 r0 r1 r2 r9 else bM_condition_86 g3 g4 g5 g6 g7 g8 g10 g11 g12 g13 g14 g15 g16 g17 g18 r0 r1 r2 r9
def bM_condition_44 (g3 g4 g5 g6 g7 g8 g10 g11 g12 g13 g14 g15 g16 g17 g18 : Int32) (r0 r1 r2 r9 : Nat → Int32) : SM := if (sM_onPatient g3 g4 g5 g6 g7 g8 g10 g11 g12 g13 g14 g15 g16 g17 g18 r0 r1 r2 r9) = 0 then bM_condition_78 g3 g4 g5 g6 g7 g8 g10 g11 g12 g13 g14 g15 g16 g17 g18 r0 r1 r2 r9 else bM_condition_51 g3 g4 g5 g6 g7 g8 g10 g11 g12 g13 g14 g15 g16 g17 g18 r0 r1 r2 r9
def bM_condition_38 (K : Int32 → Int32 → Int32 → Int32 → Int32 → Int32 → Int32 → Int32 → Int32 → Int32 → Int32 → Int32 → Int32 → Int32 → Int32 → (Nat → Int32) → (Nat → Int32) → (Nat → Int32) → (Nat → Int32) → Int32 → SM) (g3 g4 g5 g6 g7 g8 g10 g11 g12 g13 g14 g15 g16 g17 g18 : Int32) (r0 r1 r2 r9 : Nat → Int32) (x1 : Int32) : SM := K g3 g4 g5 g6 g7 g8 g10 g11 g12 g13 g14 g15 g16 g17 g18 r0 r1 r2 r9 (x1 + 1)
def bM_condition_16 (K : Int32 → Int32 → Int32 → Int32 → Int32 → Int32 → Int32 → Int32 → Int32 → Int32 → Int32 → Int32 → Int32 → Int32 → Int32 → (Nat → Int32) → (Nat → Int32) → (Nat → Int32) → (Nat → Int32) → Int32 → SM) (g3 g4 g5 g6 g7 g8 g10 g11 g12 g13 g14 g15 g16 g17 g18 : Int32) (r0 r1 r2 r9 : Nat → Int32) (x1 : Int32) : SM := bM_condition_38 K g3 g4 g5 g6 g7 g8 g10 g11 g12 g13 g14 g15 g16 g17 g18 r0 r1 (upd r2 x1.toNatClampNeg (r1 x1.toNatClampNeg)) (upd r9 x1.toNatClampNeg g8) x1
def bM_condition_8 (K : Int32 → Int32 → Int32 → Int32 → Int32 → Int32 → Int32 → Int32 → Int32 → Int32 → Int32 → Int32 → Int32 → Int32 → Int32 → (Nat → Int32) → (Nat → Int32) → (Nat → Int32) → (Nat → Int32) → Int32 → SM) (g3 g4 g5 g6 g7 g8 g10 g11 g12 g13 g14 g15 g16 g17 g18 : Int32) (r0 r1 r2 r9 : Nat → Int32) (x1 : Int32) : SM := if (sM_isPlausible g3 g4 g5 g6 g7 g8 g10 g11 g12 g13 g14 g15 g16 g17 g18 r0 r1 r2 r9 x1) = 0 then bM_condition_38 K g3 g4 g5 g6 g7 g8 g10 g11 g12 g13 g14 g15 g16 g17 g18 r0 r1 r2 r9 x1 else bM_condition_16 K g3 g4 g5 g6 g7 g8 g10 g11 g12 g13 g14 g15 g16 g17 g18 r0 r1 r2 r9 x1
def bM_condition_2 : Nat → Int32 → Int32 → Int32 → Int32 → Int32 → Int32 → Int32 → Int32 → Int32 → Int32 → Int32 → Int32 → Int32 → Int32 → Int32 → (Nat → Int32) → (Nat → Int32) → (Nat → Int32) → (Nat → Int32) → Int32 → SM
  | 0 => fun g3 g4 g5 g6 g7 g8 g10 g11 g12 g13 g14 g15 g16 g17 g18 r0 r1 r2 r9 x1 => (g3, g4, g5, g6, g7, g8, g10, g11, g12, g13, g14, g15, g16, g17, g18, r0, r1, r2, r9)
  | n + 1 => fun g3 g4 g5 g6 g7 g8 g10 g11 g12 g13 g14 g15 g16 g17 g18 r0 r1 r2 r9 x1 => if 6 ≤ x1 then bM_condition_44 g3 g4 g5 g6 g7 g8 g10 g11 g12 g13 g14 g15 g16 g17 g18 r0 r1 r2 r9 else bM_condition_8 (bM_condition_2 n) g3 g4 g5 g6 g7 g8 g10 g11 g12 g13 g14 g15 g16 g17 g18 r0 r1 r2 r9 x1
theorem bM_condition_2_s (n : Nat) (g3 g4 g5 g6 g7 g8 g10 g11 g12 g13 g14 g15 g16 g17 g18 : Int32) (r0 r1 r2 r9 : Nat → Int32) (x1 : Int32) : bM_condition_2 (n + 1) g3 g4 g5 g6 g7 g8 g10 g11 g12 g13 g14 g15 g16 g17 g18 r0 r1 r2 r9 x1 = if 6 ≤ x1 then bM_condition_44 g3 g4 g5 g6 g7 g8 g10 g11 g12 g13 g14 g15 g16 g17 g18 r0 r1 r2 r9 else bM_condition_8 (bM_condition_2 n) g3 g4 g5 g6 g7 g8 g10 g11 g12 g13 g14 g15 g16 g17 g18 r0 r1 r2 r9 x1 := rfl
def bM_condition_0 (g3 g4 g5 g6 g7 g8 g10 g11 g12 g13 g14 g15 g16 g17 g18 : Int32) (r0 r1 r2 r9 : Nat → Int32) : SM := bM_condition_2 7 g3 g4 g5 g6 g7 g8 g10 g11 g12 g13 g14 g15 g16 g17 g18 r0 r1 r2 r9 0
def sM_condition (g3 g4 g5 g6 g7 g8 g10 g11 g12 g13 g14 g15 g16 g17 g18 : Int32) (r0 r1 r2 r9 : Nat → Int32) : SM := bM_condition_0 g3 g4 g5 g6 g7 g8 g10 g11 g12 g13 g14 g15 g16 g17 g18 r0 r1 r2 r9

def bM_conditionsNow_163 (g3 g4 g5 g6 g7 g8 g10 g11 g12 g13 g14 g15 g16 g17 g18 : Int32) (r0 r1 r2 r9 : Nat → Int32) (x1 : Int32) : Int32 := x1
def bM_conditionsNow_156 (g3 g4 g5 g6 g7 g8 g10 g11 g12 g13 g14 g15 g16 g17 g18 : Int32) (r0 r1 r2 r9 : Nat → Int32) (x1 : Int32) : Int32 := x1 + 32
def bM_conditionsNow_152 (g3 g4 g5 g6 g7 g8 g10 g11 g12 g13 g14 g15 g16 g17 g18 : Int32) (r0 r1 r2 r9 : Nat → Int32) (x1 : Int32) (x2 : Int32) : Int32 := if x2 = 0 then bM_conditionsNow_163 g3 g4 g5 g6 g7 g8 g10 g11 g12 g13 g14 g15 g16 g17 g18 r0 r1 r2 r9 x1 else bM_conditionsNow_156 g3 g4 g5 g6 g7 g8 g10 g11 g12 g13 g14 g15 g16 g17 g18 r0 r1 r2 r9 x1
def bM_conditionsNow_145 (K : Int32 → Int32 → Int32 → Int32 → Int32 → Int32 → Int32 → Int32 → Int32 → Int32 → Int32 → Int32 → Int32 → Int32 → Int32 → (Nat → Int32) → (Nat → Int32) → (Nat → Int32) → (Nat → Int32) → Int32 → Int32 → Int32 → Int32) (g3 g4 g5 g6 g7 g8 g10 g11 g12 g13 g14 g15 g16 g17 g18 : Int32) (r0 r1 r2 r9 : Nat → Int32) (x1 : Int32) (x3 : Int32) (y0 : Int32) : Int32 := K g3 g4 g5 g6 g7 g8 g10 g11 g12 g13 g14 g15 g16 g17 g18 r0 r1 r2 r9 x1 y0 (x3 + 1)
def bM_conditionsNow_144 (K : Int32 → Int32 → Int32 → Int32 → Int32 → Int32 → Int32 → Int32 → Int32 → Int32 → Int32 → Int32 → Int32 → Int32 → Int32 → (Nat → Int32) → (Nat → Int32) → (Nat → Int32) → (Nat → Int32) → Int32 → Int32 → Int32 → Int32) (g3 g4 g5 g6 g7 g8 g10 g11 g12 g13 g14 g15 g16 g17 g18 : Int32) (r0 r1 r2 r9 : Nat → Int32) (x1 : Int32) (x3 : Int32) : Int32 := bM_conditionsNow_145 K g3 g4 g5 g6 g7 g8 g10 g11 g12 g13 g14 g15 g16 g17 g18 r0 r1 r2 r9 x1 x3 0
def bM_conditionsNow_140 (K : Int32 → Int32 → Int32 → Int32 → Int32 → Int32 → Int32 → Int32 → Int32 → Int32 → Int32 → Int32 → Int32 → Int32 → Int32 → (Nat → Int32) → (Nat → Int32) → (Nat → Int32) → (Nat → Int32) → Int32 → Int32 → Int32 → Int32) (g3 g4 g5 g6 g7 g8 g10 g11 g12 g13 g14 g15 g16 g17 g18 : Int32) (r0 r1 r2 r9 : Nat → Int32) (x1 : Int32) (x3 : Int32) : Int32 := bM_conditionsNow_145 K g3 g4 g5 g6 g7 g8 g10 g11 g12 g13 g14 g15 g16 g17 g18 r0 r1 r2 r9 x1 x3 1
def bM_conditionsNow_132 (K : Int32 → Int32 → Int32 → Int32 → Int32 → Int32 → Int32 → Int32 → Int32 → Int32 → Int32 → Int32 → Int32 → Int32 → Int32 → (Nat → Int32) → (Nat → Int32) → (Nat → Int32) → (Nat → Int32) → Int32 → Int32 → Int32 → Int32) (g3 g4 g5 g6 g7 g8 g10 g11 g12 g13 g14 g15 g16 g17 g18 : Int32) (r0 r1 r2 r9 : Nat → Int32) (x1 : Int32) (x3 : Int32) : Int32 := if (sM_faulty g3 g4 g5 g6 g7 g8 g10 g11 g12 g13 g14 g15 g16 g17 g18 r0 r1 r2 r9 x3) = 0 then bM_conditionsNow_144 K g3 g4 g5 g6 g7 g8 g10 g11 g12 g13 g14 g15 g16 g17 g18 r0 r1 r2 r9 x1 x3 else bM_conditionsNow_140 K g3 g4 g5 g6 g7 g8 g10 g11 g12 g13 g14 g15 g16 g17 g18 r0 r1 r2 r9 x1 x3
def bM_conditionsNow_128 (K : Int32 → Int32 → Int32 → Int32 → Int32 → Int32 → Int32 → Int32 → Int32 → Int32 → Int32 → Int32 → Int32 → Int32 → Int32 → (Nat → Int32) → (Nat → Int32) → (Nat → Int32) → (Nat → Int32) → Int32 → Int32 → Int32 → Int32) (g3 g4 g5 g6 g7 g8 g10 g11 g12 g13 g14 g15 g16 g17 g18 : Int32) (r0 r1 r2 r9 : Nat → Int32) (x1 : Int32) (x2 : Int32) (x3 : Int32) : Int32 := if x2 = 0 then bM_conditionsNow_132 K g3 g4 g5 g6 g7 g8 g10 g11 g12 g13 g14 g15 g16 g17 g18 r0 r1 r2 r9 x1 x3 else bM_conditionsNow_140 K g3 g4 g5 g6 g7 g8 g10 g11 g12 g13 g14 g15 g16 g17 g18 r0 r1 r2 r9 x1 x3
def bM_conditionsNow_122 : Nat → Int32 → Int32 → Int32 → Int32 → Int32 → Int32 → Int32 → Int32 → Int32 → Int32 → Int32 → Int32 → Int32 → Int32 → Int32 → (Nat → Int32) → (Nat → Int32) → (Nat → Int32) → (Nat → Int32) → Int32 → Int32 → Int32 → Int32
  | 0 => fun g3 g4 g5 g6 g7 g8 g10 g11 g12 g13 g14 g15 g16 g17 g18 r0 r1 r2 r9 x1 x2 x3 => 0
  | n + 1 => fun g3 g4 g5 g6 g7 g8 g10 g11 g12 g13 g14 g15 g16 g17 g18 r0 r1 r2 r9 x1 x2 x3 => if 6 ≤ x3 then bM_conditionsNow_152 g3 g4 g5 g6 g7 g8 g10 g11 g12 g13 g14 g15 g16 g17 g18 r0 r1 r2 r9 x1 x2 else bM_conditionsNow_128 (bM_conditionsNow_122 n) g3 g4 g5 g6 g7 g8 g10 g11 g12 g13 g14 g15 g16 g17 g18 r0 r1 r2 r9 x1 x2 x3
theorem bM_conditionsNow_122_s (n : Nat) (g3 g4 g5 g6 g7 g8 g10 g11 g12 g13 g14 g15 g16 g17 g18 : Int32) (r0 r1 r2 r9 : Nat → Int32) (x1 : Int32) (x2 : Int32) (x3 : Int32) : bM_conditionsNow_122 (n + 1) g3 g4 g5 g6 g7 g8 g10 g11 g12 g13 g14 g15 g16 g17 g18 r0 r1 r2 r9 x1 x2 x3 = if 6 ≤ x3 then bM_conditionsNow_152 g3 g4 g5 g6 g7 g8 g10 g11 g12 g13 g14 g15 g16 g17 g18 r0 r1 r2 r9 x1 x2 else bM_conditionsNow_128 (bM_conditionsNow_122 n) g3 g4 g5 g6 g7 g8 g10 g11 g12 g13 g14 g15 g16 g17 g18 r0 r1 r2 r9 x1 x2 x3 := rfl
def bM_conditionsNow_117 (g3 g4 g5 g6 g7 g8 g10 g11 g12 g13 g14 g15 g16 g17 g18 : Int32) (r0 r1 r2 r9 : Nat → Int32) (y0 : Int32) : Int32 := bM_conditionsNow_122 7 g3 g4 g5 g6 g7 g8 g10 g11 g12 g13 g14 g15 g16 g17 g18 r0 r1 r2 r9 y0 0 0
def bM_conditionsNow_116 (g3 g4 g5 g6 g7 g8 g10 g11 g12 g13 g14 g15 g16 g17 g18 : Int32) (r0 r1 r2 r9 : Nat → Int32) (x1 : Int32) : Int32 := bM_conditionsNow_117 g3 g4 g5 g6 g7 g8 g10 g11 g12 g13 g14 g15 g16 g17 g18 r0 r1 r2 r9 x1
def bM_conditionsNow_109 (g3 g4 g5 g6 g7 g8 g10 g11 g12 g13 g14 g15 g16 g17 g18 : Int32) (r0 r1 r2 r9 : Nat → Int32) (x1 : Int32) : Int32 := bM_conditionsNow_117 g3 g4 g5 g6 g7 g8 g10 g11 g12 g13 g14 g15 g16 g17 g18 r0 r1 r2 r9 (x1 + 16)
def bM_conditionsNow_93 (g3 g4 g5 g6 g7 g8 g10 g11 g12 g13 g14 g15 g16 g17 g18 : Int32) (r0 r1 r2 r9 : Nat → Int32) (y0 : Int32) : Int32 := if (g8 - g12) < 600 then bM_conditionsNow_116 g3 g4 g5 g6 g7 g8 g10 g11 g12 g13 g14 g15 g16 g17 g18 r0 r1 r2 r9 y0 else bM_conditionsNow_109 g3 g4 g5 g6 g7 g8 g10 g11 g12 g13 g14 g15 g16 g17 g18 r0 r1 r2 r9 y0
def bM_conditionsNow_92 (g3 g4 g5 g6 g7 g8 g10 g11 g12 g13 g14 g15 g16 g17 g18 : Int32) (r0 r1 r2 r9 : Nat → Int32) (x1 : Int32) : Int32 := bM_conditionsNow_93 g3 g4 g5 g6 g7 g8 g10 g11 g12 g13 g14 g15 g16 g17 g18 r0 r1 r2 r9 x1
def bM_conditionsNow_85 (g3 g4 g5 g6 g7 g8 g10 g11 g12 g13 g14 g15 g16 g17 g18 : Int32) (r0 r1 r2 r9 : Nat → Int32) (x1 : Int32) : Int32 := bM_conditionsNow_93 g3 g4 g5 g6 g7 g8 g10 g11 g12 g13 g14 g15 g16 g17 g18 r0 r1 r2 r9 (x1 + 8)
def bM_conditionsNow_75 (g3 g4 g5 g6 g7 g8 g10 g11 g12 g13 g14 g15 g16 g17 g18 : Int32) (r0 r1 r2 r9 : Nat → Int32) (x1 : Int32) : Int32 := if (r2 5) = 1 then bM_conditionsNow_85 g3 g4 g5 g6 g7 g8 g10 g11 g12 g13 g14 g15 g16 g17 g18 r0 r1 r2 r9 x1 else bM_conditionsNow_92 g3 g4 g5 g6 g7 g8 g10 g11 g12 g13 g14 g15 g16 g17 g18 r0 r1 r2 r9 x1
def bM_conditionsNow_66 (g3 g4 g5 g6 g7 g8 g10 g11 g12 g13 g14 g15 g16 g17 g18 : Int32) (r0 r1 r2 r9 : Nat → Int32) (y0 : Int32) : Int32 := if g3 = 3 then bM_conditionsNow_75 g3 g4 g5 g6 g7 g8 g10 g11 g12 g13 g14 g15 g16 g17 g18 r0 r1 r2 r9 y0 else bM_conditionsNow_92 g3 g4 g5 g6 g7 g8 g10 g11 g12 g13 g14 g15 g16 g17 g18 r0 r1 r2 r9 y0
def bM_conditionsNow_65 (g3 g4 g5 g6 g7 g8 g10 g11 g12 g13 g14 g15 g16 g17 g18 : Int32) (r0 r1 r2 r9 : Nat → Int32) (x1 : Int32) : Int32 := bM_conditionsNow_66 g3 g4 g5 g6 g7 g8 g10 g11 g12 g13 g14 g15 g16 g17 g18 r0 r1 r2 r9 x1
def bM_conditionsNow_59 (g3 g4 g5 g6 g7 g8 g10 g11 g12 g13 g14 g15 g16 g17 g18 : Int32) (r0 r1 r2 r9 : Nat → Int32) (x1 : Int32) : Int32 := bM_conditionsNow_66 g3 g4 g5 g6 g7 g8 g10 g11 g12 g13 g14 g15 g16 g17 g18 r0 r1 r2 r9 (x1 + 4)
def bM_conditionsNow_49 (g3 g4 g5 g6 g7 g8 g10 g11 g12 g13 g14 g15 g16 g17 g18 : Int32) (r0 r1 r2 r9 : Nat → Int32) (x1 : Int32) : Int32 := if (r2 4) = 1 then bM_conditionsNow_59 g3 g4 g5 g6 g7 g8 g10 g11 g12 g13 g14 g15 g16 g17 g18 r0 r1 r2 r9 x1 else bM_conditionsNow_65 g3 g4 g5 g6 g7 g8 g10 g11 g12 g13 g14 g15 g16 g17 g18 r0 r1 r2 r9 x1
def bM_conditionsNow_41 (g3 g4 g5 g6 g7 g8 g10 g11 g12 g13 g14 g15 g16 g17 g18 : Int32) (r0 r1 r2 r9 : Nat → Int32) (y0 : Int32) : Int32 := if (sM_onPatient g3 g4 g5 g6 g7 g8 g10 g11 g12 g13 g14 g15 g16 g17 g18 r0 r1 r2 r9) = 0 then bM_conditionsNow_65 g3 g4 g5 g6 g7 g8 g10 g11 g12 g13 g14 g15 g16 g17 g18 r0 r1 r2 r9 y0 else bM_conditionsNow_49 g3 g4 g5 g6 g7 g8 g10 g11 g12 g13 g14 g15 g16 g17 g18 r0 r1 r2 r9 y0
def bM_conditionsNow_40 (g3 g4 g5 g6 g7 g8 g10 g11 g12 g13 g14 g15 g16 g17 g18 : Int32) (r0 r1 r2 r9 : Nat → Int32) (x1 : Int32) : Int32 := bM_conditionsNow_41 g3 g4 g5 g6 g7 g8 g10 g11 g12 g13 g14 g15 g16 g17 g18 r0 r1 r2 r9 x1
def bM_conditionsNow_34 (g3 g4 g5 g6 g7 g8 g10 g11 g12 g13 g14 g15 g16 g17 g18 : Int32) (r0 r1 r2 r9 : Nat → Int32) (x1 : Int32) : Int32 := bM_conditionsNow_41 g3 g4 g5 g6 g7 g8 g10 g11 g12 g13 g14 g15 g16 g17 g18 r0 r1 r2 r9 (x1 + 2)
def bM_conditionsNow_19 (g3 g4 g5 g6 g7 g8 g10 g11 g12 g13 g14 g15 g16 g17 g18 : Int32) (r0 r1 r2 r9 : Nat → Int32) (y0 : Int32) : Int32 := if (g8 - g11) < 30 then bM_conditionsNow_40 g3 g4 g5 g6 g7 g8 g10 g11 g12 g13 g14 g15 g16 g17 g18 r0 r1 r2 r9 y0 else bM_conditionsNow_34 g3 g4 g5 g6 g7 g8 g10 g11 g12 g13 g14 g15 g16 g17 g18 r0 r1 r2 r9 y0
def bM_conditionsNow_18 (g3 g4 g5 g6 g7 g8 g10 g11 g12 g13 g14 g15 g16 g17 g18 : Int32) (r0 r1 r2 r9 : Nat → Int32) : Int32 := bM_conditionsNow_19 g3 g4 g5 g6 g7 g8 g10 g11 g12 g13 g14 g15 g16 g17 g18 r0 r1 r2 r9 0
def bM_conditionsNow_14 (g3 g4 g5 g6 g7 g8 g10 g11 g12 g13 g14 g15 g16 g17 g18 : Int32) (r0 r1 r2 r9 : Nat → Int32) : Int32 := bM_conditionsNow_19 g3 g4 g5 g6 g7 g8 g10 g11 g12 g13 g14 g15 g16 g17 g18 r0 r1 r2 r9 1
def bM_conditionsNow_0 (g3 g4 g5 g6 g7 g8 g10 g11 g12 g13 g14 g15 g16 g17 g18 : Int32) (r0 r1 r2 r9 : Nat → Int32) : Int32 := if (g8 - g10) < 30 then bM_conditionsNow_18 g3 g4 g5 g6 g7 g8 g10 g11 g12 g13 g14 g15 g16 g17 g18 r0 r1 r2 r9 else bM_conditionsNow_14 g3 g4 g5 g6 g7 g8 g10 g11 g12 g13 g14 g15 g16 g17 g18 r0 r1 r2 r9
def sM_conditionsNow (g3 g4 g5 g6 g7 g8 g10 g11 g12 g13 g14 g15 g16 g17 g18 : Int32) (r0 r1 r2 r9 : Nat → Int32) : Int32 := bM_conditionsNow_0 g3 g4 g5 g6 g7 g8 g10 g11 g12 g13 g14 g15 g16 g17 g18 r0 r1 r2 r9

def bM_commands_183 (g3 g4 g5 g6 g7 g8 g10 g11 g12 g13 g14 g15 g16 g17 g18 : Int32) (r0 r1 r2 r9 : Nat → Int32) (x2 : Int32) : Int32 × SM := (x2 + 8, (g3, g4, g5, g6, g7, g8, g10, g11, g12, g13, g14, g15 + 1, g16, g17, g18, r0, r1, r2, r9))
def bM_commands_181 (g3 g4 g5 g6 g7 g8 g10 g11 g12 g13 g14 g15 g16 g17 g18 : Int32) (r0 r1 r2 r9 : Nat → Int32) (x2 : Int32) : Int32 × SM := (x2, (g3, g4, g5, g6, g7, g8, g10, g11, g12, g13, g14, g15, g16, g17, g18, r0, r1, r2, r9))
def bM_commands_123 (g3 g4 g5 g6 g7 g8 g10 g11 g12 g13 g14 g15 g16 g17 g18 : Int32) (r0 r1 r2 r9 : Nat → Int32) (x2 : Int32) : Int32 × SM := if 0 ≤ (lg_cmp (((((r0 1).toInt64) * 1000) * ((g14 + 1).toInt64)) / (600 * ((r0 3).toInt64))) ((500 * g15.toInt64) + 500)) then bM_commands_183 g3 g4 g5 g6 g7 g8 g10 g11 g12 g13 (g14 + 1) g15 g16 g17 g18 r0 r1 r2 r9 x2 else bM_commands_181 g3 g4 g5 g6 g7 g8 g10 g11 g12 g13 (g14 + 1) g15 g16 g17 g18 r0 r1 r2 r9 x2
def bM_commands_121 (g3 g4 g5 g6 g7 g8 g10 g11 g12 g13 g14 g15 g16 g17 g18 : Int32) (r0 r1 r2 r9 : Nat → Int32) (x2 : Int32) : Int32 × SM := (x2, (g3, g4, g5, g6, g7, g8, g10, g11, g12, g13, g14, g15, g16, g17, g18, r0, r1, r2, r9))
def bM_commands_115 (g3 g4 g5 g6 g7 g8 g10 g11 g12 g13 g14 g15 g16 g17 g18 : Int32) (r0 r1 r2 r9 : Nat → Int32) (x2 : Int32) : Int32 × SM := if (x2 &&& 4) = 0 then bM_commands_123 g3 g4 g5 g6 g7 g8 g10 g11 g12 g13 g14 g15 g16 g17 g18 r0 r1 r2 r9 x2 else bM_commands_121 g3 g4 g5 g6 g7 g8 g10 g11 g12 g13 g14 g15 g16 g17 g18 r0 r1 r2 r9 x2
def bM_commands_109 (g3 g4 g5 g6 g7 g8 g10 g11 g12 g13 g14 g15 g16 g17 g18 : Int32) (r0 r1 r2 r9 : Nat → Int32) (x2 : Int32) : Int32 × SM := if (x2 &&& 1) = 0 then bM_commands_121 g3 g4 g5 g6 g7 g8 g10 g11 g12 g13 g14 g15 g16 g17 g18 r0 r1 r2 r9 x2 else bM_commands_115 g3 g4 g5 g6 g7 g8 g10 g11 g12 g13 g14 g15 g16 g17 g18 r0 r1 r2 r9 x2
def bM_commands_100 (g3 g4 g5 g6 g7 g8 g10 g11 g12 g13 g14 g15 g16 g17 g18 : Int32) (r0 r1 r2 r9 : Nat → Int32) (y0 : Int32) : Int32 × SM := if g3 = 3 then bM_commands_109 g3 g4 g5 g6 g7 g8 g10 g11 g12 g13 g14 g15 g16 g17 g18 r0 r1 r2 r9 y0 else bM_commands_121 g3 g4 g5 g6 g7 g8 g10 g11 g12 g13 g14 g15 g16 g17 g18 r0 r1 r2 r9 y0
def bM_commands_99 (g3 g4 g5 g6 g7 g8 g10 g11 g12 g13 g14 g15 g16 g17 g18 : Int32) (r0 r1 r2 r9 : Nat → Int32) (x2 : Int32) : Int32 × SM := bM_commands_100 g3 g4 g5 g6 g7 g8 g10 g11 g12 g13 g14 g15 g16 g17 g18 r0 r1 r2 r9 x2
def bM_commands_93 (g3 g4 g5 g6 g7 g8 g10 g11 g12 g13 g14 g15 g16 g17 g18 : Int32) (r0 r1 r2 r9 : Nat → Int32) (x2 : Int32) : Int32 × SM := bM_commands_100 g3 g4 g5 g6 g7 g8 g10 g11 g12 g13 g14 g15 g16 g17 g18 r0 r1 r2 r9 (x2 + 4)
def bM_commands_83 (g3 g4 g5 g6 g7 g8 g10 g11 g12 g13 g14 g15 g16 g17 g18 : Int32) (r0 r1 r2 r9 : Nat → Int32) (x2 : Int32) : Int32 × SM := if (g4 &&& 8) = 0 then bM_commands_99 g3 g4 g5 g6 g7 g8 g10 g11 g12 g13 g14 g15 g16 g17 g18 r0 r1 r2 r9 x2 else bM_commands_93 g3 g4 g5 g6 g7 g8 g10 g11 g12 g13 g14 g15 g16 g17 g18 r0 r1 r2 r9 x2
def bM_commands_72 (g3 g4 g5 g6 g7 g8 g10 g11 g12 g13 g14 g15 g16 g17 g18 : Int32) (r0 r1 r2 r9 : Nat → Int32) (x2 : Int32) : Int32 × SM := if g13 = g8 then bM_commands_93 g3 g4 g5 g6 g7 g8 g10 g11 g12 g13 g14 g15 g16 g17 g18 r0 r1 r2 r9 x2 else bM_commands_83 g3 g4 g5 g6 g7 g8 g10 g11 g12 g13 g14 g15 g16 g17 g18 r0 r1 r2 r9 x2
def bM_commands_63 (g3 g4 g5 g6 g7 g8 g10 g11 g12 g13 g14 g15 g16 g17 g18 : Int32) (r0 r1 r2 r9 : Nat → Int32) (y0 : Int32) : Int32 × SM := if g3 = 3 then bM_commands_72 g3 g4 g5 g6 g7 g8 g10 g11 g12 g13 g14 g15 g16 g17 g18 r0 r1 r2 r9 y0 else bM_commands_93 g3 g4 g5 g6 g7 g8 g10 g11 g12 g13 g14 g15 g16 g17 g18 r0 r1 r2 r9 y0
def bM_commands_62 (g3 g4 g5 g6 g7 g8 g10 g11 g12 g13 g14 g15 g16 g17 g18 : Int32) (r0 r1 r2 r9 : Nat → Int32) (x2 : Int32) : Int32 × SM := bM_commands_63 g3 g4 g5 g6 g7 g8 g10 g11 g12 g13 g14 g15 g16 g17 g18 r0 r1 r2 r9 x2
def bM_commands_56 (g3 g4 g5 g6 g7 g8 g10 g11 g12 g13 g14 g15 g16 g17 g18 : Int32) (r0 r1 r2 r9 : Nat → Int32) (x2 : Int32) : Int32 × SM := bM_commands_63 g3 g4 g5 g6 g7 g8 g10 g11 g12 g13 g14 g15 g16 g17 g18 r0 r1 r2 r9 (x2 + 2)
def bM_commands_46 (g3 g4 g5 g6 g7 g8 g10 g11 g12 g13 g14 g15 g16 g17 g18 : Int32) (r0 r1 r2 r9 : Nat → Int32) (x2 : Int32) : Int32 × SM := if (g4 &&& 38) = 0 then bM_commands_56 g3 g4 g5 g6 g7 g8 g10 g11 g12 g13 g14 g15 g16 g17 g18 r0 r1 r2 r9 x2 else bM_commands_62 g3 g4 g5 g6 g7 g8 g10 g11 g12 g13 g14 g15 g16 g17 g18 r0 r1 r2 r9 x2
def bM_commands_41 (g3 g4 g5 g6 g7 g8 g10 g11 g12 g13 g14 g15 g16 g17 g18 : Int32) (r0 r1 r2 r9 : Nat → Int32) (x1 : Int32) (y0 : Int32) : Int32 × SM := if x1 = 0 then bM_commands_62 g3 g4 g5 g6 g7 g8 g10 g11 g12 g13 g14 g15 g16 g17 g18 r0 r1 r2 r9 y0 else bM_commands_46 g3 g4 g5 g6 g7 g8 g10 g11 g12 g13 g14 g15 g16 g17 g18 r0 r1 r2 r9 y0
def bM_commands_40 (g3 g4 g5 g6 g7 g8 g10 g11 g12 g13 g14 g15 g16 g17 g18 : Int32) (r0 r1 r2 r9 : Nat → Int32) (x1 : Int32) : Int32 × SM := bM_commands_41 g3 g4 g5 g6 g7 g8 g10 g11 g12 g13 g14 g15 g16 g17 g18 r0 r1 r2 r9 x1 0
def bM_commands_36 (g3 g4 g5 g6 g7 g8 g10 g11 g12 g13 g14 g15 g16 g17 g18 : Int32) (r0 r1 r2 r9 : Nat → Int32) (x1 : Int32) : Int32 × SM := bM_commands_41 g3 g4 g5 g6 g7 g8 g10 g11 g12 g13 g14 g15 g16 g17 g18 r0 r1 r2 r9 x1 1
def bM_commands_26 (g3 g4 g5 g6 g7 g8 g10 g11 g12 g13 g14 g15 g16 g17 g18 : Int32) (r0 r1 r2 r9 : Nat → Int32) (x1 : Int32) : Int32 × SM := if (g4 &&& ((-17))) = 0 then bM_commands_36 g3 g4 g5 g6 g7 g8 g10 g11 g12 g13 g14 g15 g16 g17 g18 r0 r1 r2 r9 x1 else bM_commands_40 g3 g4 g5 g6 g7 g8 g10 g11 g12 g13 g14 g15 g16 g17 g18 r0 r1 r2 r9 x1
def bM_commands_21 (g3 g4 g5 g6 g7 g8 g10 g11 g12 g13 g14 g15 g16 g17 g18 : Int32) (r0 r1 r2 r9 : Nat → Int32) (y0 : Int32) : Int32 × SM := if y0 = 0 then bM_commands_40 g3 g4 g5 g6 g7 g8 g10 g11 g12 g13 g14 g15 g16 g17 g18 r0 r1 r2 r9 y0 else bM_commands_26 g3 g4 g5 g6 g7 g8 g10 g11 g12 g13 g14 g15 g16 g17 g18 r0 r1 r2 r9 y0
def bM_commands_20 (g3 g4 g5 g6 g7 g8 g10 g11 g12 g13 g14 g15 g16 g17 g18 : Int32) (r0 r1 r2 r9 : Nat → Int32) : Int32 × SM := bM_commands_21 g3 g4 g5 g6 g7 g8 g10 g11 g12 g13 g14 g15 g16 g17 g18 r0 r1 r2 r9 0
def bM_commands_16 (g3 g4 g5 g6 g7 g8 g10 g11 g12 g13 g14 g15 g16 g17 g18 : Int32) (r0 r1 r2 r9 : Nat → Int32) : Int32 × SM := bM_commands_21 g3 g4 g5 g6 g7 g8 g10 g11 g12 g13 g14 g15 g16 g17 g18 r0 r1 r2 r9 1
def bM_commands_8 (g3 g4 g5 g6 g7 g8 g10 g11 g12 g13 g14 g15 g16 g17 g18 : Int32) (r0 r1 r2 r9 : Nat → Int32) : Int32 × SM := if 4 < g3 then bM_commands_20 g3 g4 g5 g6 g7 g8 g10 g11 g12 g13 g14 g15 g16 g17 g18 r0 r1 r2 r9 else bM_commands_16 g3 g4 g5 g6 g7 g8 g10 g11 g12 g13 g14 g15 g16 g17 g18 r0 r1 r2 r9
def bM_commands_0 (g3 g4 g5 g6 g7 g8 g10 g11 g12 g13 g14 g15 g16 g17 g18 : Int32) (r0 r1 r2 r9 : Nat → Int32) : Int32 × SM := if g3 < 1 then bM_commands_20 g3 g4 g5 g6 g7 g8 g10 g11 g12 g13 g14 g15 g16 g17 g18 r0 r1 r2 r9 else bM_commands_8 g3 g4 g5 g6 g7 g8 g10 g11 g12 g13 g14 g15 g16 g17 g18 r0 r1 r2 r9
def sM_commands (g3 g4 g5 g6 g7 g8 g10 g11 g12 g13 g14 g15 g16 g17 g18 : Int32) (r0 r1 r2 r9 : Nat → Int32) : Int32 × SM := bM_commands_0 g3 g4 g5 g6 g7 g8 g10 g11 g12 g13 g14 g15 g16 g17 g18 r0 r1 r2 r9

def bM_guarded_143 (g3 g4 g5 g6 g7 g8 g10 g11 g12 g13 g14 g15 g16 g17 g18 : Int32) (r0 r1 r2 r9 : Nat → Int32) (x3 : Int32) : Int32 × SM := (x3, (g3, g4, g5, g6, g7, g8, g10, g11, g12, g13, g14, g15, g16, g17, g18, r0, r1, r2, r9))
def bM_guarded_138 (g3 g4 g5 g6 g7 g8 g10 g11 g12 g13 g14 g15 g16 g17 g18 : Int32) (r0 r1 r2 r9 : Nat → Int32) (x3 : Int32) : Int32 × SM := bM_guarded_143 g3 g4 g5 g6 g7 g8 g10 g11 g12 g13 g14 g15 g16 g17 g18 r0 r1 r2 r9 (x3 &&& ((-9)))
def bM_guarded_111 (g3 g4 g5 g6 g7 g8 g10 g11 g12 g13 g14 g15 g16 g17 g18 : Int32) (r0 r1 r2 r9 : Nat → Int32) (x3 : Int32) : Int32 × SM := if (500 * (g16 + 1)) ≤ (((r0 1) * 1000) + 500) then bM_guarded_143 g3 g4 g5 g6 g7 g8 g10 g11 g12 g13 g14 g15 g16 g17 g18 r0 r1 r2 r9 x3 else bM_guarded_138 g3 g4 g5 g6 g7 g8 g10 g11 g12 g13 g14 g15 g16 g17 g18 r0 r1 r2 r9 x3
def bM_guarded_103 (g3 g4 g5 g6 g7 g8 g10 g11 g12 g13 g14 g15 g16 g17 g18 : Int32) (r0 r1 r2 r9 : Nat → Int32) (x3 : Int32) : Int32 × SM := if g3 = 3 then bM_guarded_111 g3 g4 g5 g6 g7 g8 g10 g11 g12 g13 g14 g15 g16 g17 g18 r0 r1 r2 r9 x3 else bM_guarded_138 g3 g4 g5 g6 g7 g8 g10 g11 g12 g13 g14 g15 g16 g17 g18 r0 r1 r2 r9 x3
def bM_guarded_99 (g3 g4 g5 g6 g7 g8 g10 g11 g12 g13 g14 g15 g16 g17 g18 : Int32) (r0 r1 r2 r9 : Nat → Int32) (x3 : Int32) : Int32 × SM := bM_guarded_103 g3 g4 g5 g6 g7 g8 g10 g11 g12 g13 g14 g15 g16 g17 g18 r0 r1 r2 r9 (x3 ||| 4)
def bM_guarded_87 (g3 g4 g5 g6 g7 g8 g10 g11 g12 g13 g14 g15 g16 g17 g18 : Int32) (r0 r1 r2 r9 : Nat → Int32) (x3 : Int32) : Int32 × SM := if (r1 2) ≤ 410 then bM_guarded_103 g3 g4 g5 g6 g7 g8 g10 g11 g12 g13 g14 g15 g16 g17 g18 r0 r1 r2 r9 x3 else bM_guarded_99 g3 g4 g5 g6 g7 g8 g10 g11 g12 g13 g14 g15 g16 g17 g18 r0 r1 r2 r9 x3
def bM_guarded_79 (g3 g4 g5 g6 g7 g8 g10 g11 g12 g13 g14 g15 g16 g17 g18 : Int32) (r0 r1 r2 r9 : Nat → Int32) (x3 : Int32) : Int32 × SM := if g3 = 3 then bM_guarded_87 g3 g4 g5 g6 g7 g8 g10 g11 g12 g13 g14 g15 g16 g17 g18 r0 r1 r2 r9 x3 else bM_guarded_103 g3 g4 g5 g6 g7 g8 g10 g11 g12 g13 g14 g15 g16 g17 g18 r0 r1 r2 r9 x3
def bM_guarded_65 (g3 g4 g5 g6 g7 g8 g10 g11 g12 g13 g14 g15 g16 g17 g18 : Int32) (r0 r1 r2 r9 : Nat → Int32) (x3 : Int32) : Int32 × SM := bM_guarded_79 g3 g4 g5 g6 g7 g8 g10 g11 g12 g13 g14 g15 g16 (g17 + 1) g18 r0 r1 r2 r9 (x3 &&& 4)
def bM_guarded_58 (g3 g4 g5 g6 g7 g8 g10 g11 g12 g13 g14 g15 g16 g17 g18 : Int32) (r0 r1 r2 r9 : Nat → Int32) (x1 : Int32) (y0 : Int32) : Int32 × SM := if y0 = 0 then bM_guarded_79 g3 g4 g5 g6 g7 g8 g10 g11 g12 g13 g14 g15 g16 g17 g18 r0 r1 r2 r9 x1 else bM_guarded_65 g3 g4 g5 g6 g7 g8 g10 g11 g12 g13 g14 g15 g16 g17 g18 r0 r1 r2 r9 x1
def bM_guarded_57 (g3 g4 g5 g6 g7 g8 g10 g11 g12 g13 g14 g15 g16 g17 g18 : Int32) (r0 r1 r2 r9 : Nat → Int32) (x1 : Int32) : Int32 × SM := bM_guarded_58 g3 g4 g5 g6 g7 g8 g10 g11 g12 g13 g14 g15 g16 g17 g18 r0 r1 r2 r9 x1 0
def bM_guarded_53 (g3 g4 g5 g6 g7 g8 g10 g11 g12 g13 g14 g15 g16 g17 g18 : Int32) (r0 r1 r2 r9 : Nat → Int32) (x1 : Int32) : Int32 × SM := bM_guarded_58 g3 g4 g5 g6 g7 g8 g10 g11 g12 g13 g14 g15 g16 g17 g18 r0 r1 r2 r9 x1 1
def bM_guarded_35 (g3 g4 g5 g6 g7 g8 g10 g11 g12 g13 g14 g15 g16 g17 g18 : Int32) (r0 r1 r2 r9 : Nat → Int32) (x1 : Int32) : Int32 × SM := if (sM_outside g3 g4 g5 g6 g7 g8 g10 g11 g12 g13 g14 g15 g16 g17 g18 r0 r1 r2 r9 (r1 1) ((-50)) 450) = 0 then bM_guarded_57 g3 g4 g5 g6 g7 g8 g10 g11 g12 g13 g14 g15 g16 g17 g18 r0 r1 r2 r9 x1 else bM_guarded_53 g3 g4 g5 g6 g7 g8 g10 g11 g12 g13 g14 g15 g16 g17 g18 r0 r1 r2 r9 x1
def bM_guarded_16 (g3 g4 g5 g6 g7 g8 g10 g11 g12 g13 g14 g15 g16 g17 g18 : Int32) (r0 r1 r2 r9 : Nat → Int32) (x1 : Int32) : Int32 × SM := if (sM_outside g3 g4 g5 g6 g7 g8 g10 g11 g12 g13 g14 g15 g16 g17 g18 r0 r1 r2 r9 (r1 0) ((-350)) 250) = 0 then bM_guarded_35 g3 g4 g5 g6 g7 g8 g10 g11 g12 g13 g14 g15 g16 g17 g18 r0 r1 r2 r9 x1 else bM_guarded_53 g3 g4 g5 g6 g7 g8 g10 g11 g12 g13 g14 g15 g16 g17 g18 r0 r1 r2 r9 x1
def bM_guarded_7 (g3 g4 g5 g6 g7 g8 g10 g11 g12 g13 g14 g15 g16 g17 g18 : Int32) (r0 r1 r2 r9 : Nat → Int32) (x1 : Int32) : Int32 × SM := if (r1 4) = 0 then bM_guarded_16 g3 g4 g5 g6 g7 g8 g10 g11 g12 g13 g14 g15 g16 g17 g18 r0 r1 r2 r9 x1 else bM_guarded_53 g3 g4 g5 g6 g7 g8 g10 g11 g12 g13 g14 g15 g16 g17 g18 r0 r1 r2 r9 x1
def bM_guarded_0 (g3 g4 g5 g6 g7 g8 g10 g11 g12 g13 g14 g15 g16 g17 g18 : Int32) (r0 r1 r2 r9 : Nat → Int32) (x1 : Int32) : Int32 × SM := if (sM_onPatient g3 g4 g5 g6 g7 g8 g10 g11 g12 g13 g14 g15 g16 g17 g18 r0 r1 r2 r9) = 0 then bM_guarded_57 g3 g4 g5 g6 g7 g8 g10 g11 g12 g13 g14 g15 g16 g17 g18 r0 r1 r2 r9 x1 else bM_guarded_7 g3 g4 g5 g6 g7 g8 g10 g11 g12 g13 g14 g15 g16 g17 g18 r0 r1 r2 r9 x1
def sM_guarded (g3 g4 g5 g6 g7 g8 g10 g11 g12 g13 g14 g15 g16 g17 g18 : Int32) (r0 r1 r2 r9 : Nat → Int32) (k1 : Int32) : Int32 × SM := bM_guarded_0 g3 g4 g5 g6 g7 g8 g10 g11 g12 g13 g14 g15 g16 g17 g18 r0 r1 r2 r9 k1

def bM_one_194 (g3 g4 g5 g6 g7 g8 g10 g11 g12 g13 g14 g15 g16 g17 g18 : Int32) (r0 r1 r2 r9 : Nat → Int32) : Int32 × SM := (0, (g3, g4, g5, g6, g7, g8, g10, g11, g12, g13, g14, g15, g16, g17, g18, r0, r1, r2, r9))
def bM_one_190 (g3 g4 g5 g6 g7 g8 g10 g11 g12 g13 g14 g15 g16 g17 g18 : Int32) (r0 r1 r2 r9 : Nat → Int32) : Int32 × SM := (1, (g3, g4, g5, g6, g7, g8, g10, g11, g12, g13, g14, g15, g16, g17, g18, r0, r1, r2, r9))
def bM_one_182 (g3 g4 g5 g6 g7 g8 g10 g11 g12 g13 g14 g15 g16 g17 g18 : Int32) (r0 r1 r2 r9 : Nat → Int32) (x1 : Int32) : Int32 × SM := if g4 = x1 then bM_one_194 g3 g4 g5 g6 g7 g8 g10 g11 g12 g13 g14 g15 g16 g17 g18 r0 r1 r2 r9 else bM_one_190 g3 g4 g5 g6 g7 g8 g10 g11 g12 g13 g14 g15 g16 g17 g18 r0 r1 r2 r9
def bM_one_178 (g3 g4 g5 g6 g7 g8 g10 g11 g12 g13 g14 g15 g16 g17 g18 : Int32) (r0 r1 r2 r9 : Nat → Int32) (x1 : Int32) (x3 : Int32) : Int32 × SM := if x3 = 0 then bM_one_182 g3 g4 g5 g6 g7 g8 g10 g11 g12 g13 g14 g15 g16 g17 g18 r0 r1 r2 r9 x1 else bM_one_190 g3 g4 g5 g6 g7 g8 g10 g11 g12 g13 g14 g15 g16 g17 g18 r0 r1 r2 r9
def bM_one_175q (x1 : Int32) (x3 : Int32) (q : SM) : Int32 × SM := match q with
  | (g3, g4, g5, g6, g7, g8, g10, g11, g12, g13, g14, g15, g16, g17, g18, r0, r1, r2, r9) => bM_one_178 g3 g4 g5 g6 g7 g8 g10 g11 g12 g13 g14 g15 g16 g17 g18 r0 r1 r2 r9 x1 x3
def bM_one_173 (g3 g4 g5 g6 g7 g8 g10 g11 g12 g13 g14 g15 g16 g17 g18 : Int32) (r0 r1 r2 r9 : Nat → Int32) (x1 : Int32) (x3 : Int32) : Int32 × SM := bM_one_175q x1 x3 (sM_enter g3 g4 g5 g6 g7 g8 g10 g11 g12 g13 g14 g15 g16 g17 g18 r0 r1 r2 r9 4)
def bM_one_168 (g3 g4 g5 g6 g7 g8 g10 g11 g12 g13 g14 g15 g16 g17 g18 : Int32) (r0 r1 r2 r9 : Nat → Int32) (x1 : Int32) (y0 : Int32) : Int32 × SM := if y0 = 0 then bM_one_178 g3 g4 g5 g6 g7 g8 g10 g11 g12 g13 g14 g15 g16 g17 g18 r0 r1 r2 r9 x1 y0 else bM_one_173 g3 g4 g5 g6 g7 g8 g10 g11 g12 g13 g14 g15 g16 g17 g18 r0 r1 r2 r9 x1 y0
def bM_one_167 (g3 g4 g5 g6 g7 g8 g10 g11 g12 g13 g14 g15 g16 g17 g18 : Int32) (r0 r1 r2 r9 : Nat → Int32) (x1 : Int32) : Int32 × SM := bM_one_168 g3 g4 g5 g6 g7 g8 g10 g11 g12 g13 g14 g15 g16 g17 g18 r0 r1 r2 r9 x1 0
def bM_one_163 (g3 g4 g5 g6 g7 g8 g10 g11 g12 g13 g14 g15 g16 g17 g18 : Int32) (r0 r1 r2 r9 : Nat → Int32) (x1 : Int32) : Int32 × SM := bM_one_168 g3 g4 g5 g6 g7 g8 g10 g11 g12 g13 g14 g15 g16 g17 g18 r0 r1 r2 r9 x1 1
def bM_one_146 (g3 g4 g5 g6 g7 g8 g10 g11 g12 g13 g14 g15 g16 g17 g18 : Int32) (r0 r1 r2 r9 : Nat → Int32) (x1 : Int32) : Int32 × SM := if g14 = (600 * (r0 3)) then bM_one_163 g3 g4 g5 g6 g7 g8 g10 g11 g12 g13 g14 g15 g16 g17 g18 r0 r1 r2 r9 x1 else bM_one_167 g3 g4 g5 g6 g7 g8 g10 g11 g12 g13 g14 g15 g16 g17 g18 r0 r1 r2 r9 x1
def bM_one_138 (g3 g4 g5 g6 g7 g8 g10 g11 g12 g13 g14 g15 g16 g17 g18 : Int32) (r0 r1 r2 r9 : Nat → Int32) (x1 : Int32) : Int32 × SM := if g3 = 3 then bM_one_146 g3 g4 g5 g6 g7 g8 g10 g11 g12 g13 g14 g15 g16 g17 g18 r0 r1 r2 r9 x1 else bM_one_167 g3 g4 g5 g6 g7 g8 g10 g11 g12 g13 g14 g15 g16 g17 g18 r0 r1 r2 r9 x1
def bM_one_128 (g3 g4 g5 g6 g7 g8 g10 g11 g12 g13 g14 g15 g16 g17 g18 : Int32) (r0 r1 r2 r9 : Nat → Int32) (x1 : Int32) : Int32 × SM := bM_one_138 g3 g4 g5 g6 g7 g8 g10 g11 g12 g13 g14 g15 g16 g17 (g18 + 1) r0 r1 r2 r9 x1
def bM_one_120 (g3 g4 g5 g6 g7 g8 g10 g11 g12 g13 g14 g15 g16 g17 g18 : Int32) (r0 r1 r2 r9 : Nat → Int32) (x1 : Int32) : Int32 × SM := if g3 = 5 then bM_one_128 g3 g4 g5 g6 g7 g8 g10 g11 g12 g13 g14 g15 g16 g17 g18 r0 r1 r2 r9 x1 else bM_one_138 g3 g4 g5 g6 g7 g8 g10 g11 g12 g13 g14 g15 g16 g17 g18 r0 r1 r2 r9 x1
def bM_one_111 (g3 g4 g5 g6 g7 g8 g10 g11 g12 g13 g14 g15 g16 g17 g18 : Int32) (r0 r1 r2 r9 : Nat → Int32) (x1 : Int32) : Int32 × SM := if (g6 &&& 1) = 0 then bM_one_120 g3 g4 g5 g6 g7 g8 g10 g11 g12 g13 g14 g15 g16 g17 g18 r0 r1 r2 r9 x1 else bM_one_128 g3 g4 g5 g6 g7 g8 g10 g11 g12 g13 g14 g15 g16 g17 g18 r0 r1 r2 r9 x1
def bM_one_103 (g3 g4 g5 g6 g7 g8 g10 g11 g12 g13 g14 g15 g16 g17 g18 : Int32) (r0 r1 r2 r9 : Nat → Int32) (x1 : Int32) : Int32 × SM := if g3 = 4 then bM_one_111 g3 g4 g5 g6 g7 g8 g10 g11 g12 g13 g14 g15 g16 g17 g18 r0 r1 r2 r9 x1 else bM_one_120 g3 g4 g5 g6 g7 g8 g10 g11 g12 g13 g14 g15 g16 g17 g18 r0 r1 r2 r9 x1
def bM_one_92 (g3 g4 g5 g6 g7 g8 g10 g11 g12 g13 g14 g15 g16 g17 g18 : Int32) (r0 r1 r2 r9 : Nat → Int32) (x1 : Int32) (y0 : Int32) : Int32 × SM := if g3 = 1 then bM_one_111 g3 g4 g5 g6 g7 g8 g10 g11 g12 g13 g14 g15 y0 g17 g18 r0 r1 r2 r9 x1 else bM_one_103 g3 g4 g5 g6 g7 g8 g10 g11 g12 g13 g14 g15 y0 g17 g18 r0 r1 r2 r9 x1
def bM_one_88 (g3 g4 g5 g6 g7 g8 g10 g11 g12 g13 g14 g15 g16 g17 g18 : Int32) (r0 r1 r2 r9 : Nat → Int32) (x1 : Int32) : Int32 × SM := bM_one_92 g3 g4 g5 g6 g7 g8 g10 g11 g12 g13 g14 g15 g16 g17 g18 r0 r1 r2 r9 x1 g16
def bM_one_79 (g3 g4 g5 g6 g7 g8 g10 g11 g12 g13 g14 g15 g16 g17 g18 : Int32) (r0 r1 r2 r9 : Nat → Int32) (x1 : Int32) : Int32 × SM := bM_one_92 g3 g4 g5 g6 g7 g8 g10 g11 g12 g13 g14 g15 g16 g17 g18 r0 r1 r2 r9 x1 (g16 + 1)
def bM_one_65 (g3 g4 g5 g6 g7 g8 g10 g11 g12 g13 g14 g15 g16 g17 g18 : Int32) (r0 r1 r2 r9 : Nat → Int32) (x1 : Int32) (y0 : Int32) : Int32 × SM := if (y0 &&& 8) = 0 then bM_one_88 g3 g4 g5 y0 g7 g8 g10 g11 g12 g13 g14 g15 g16 g17 g18 r0 r1 r2 r9 x1 else bM_one_79 g3 g4 g5 y0 g7 g8 g10 g11 g12 g13 g14 g15 g16 g17 g18 r0 r1 r2 r9 x1
def bM_one_62q (x1 : Int32) (q : Int32 × SM) : Int32 × SM := match q with
  | (y0, g3, g4, g5, g6, g7, g8, g10, g11, g12, g13, g14, g15, g16, g17, g18, r0, r1, r2, r9) => bM_one_65 g3 g4 g5 g6 g7 g8 g10 g11 g12 g13 g14 g15 g16 g17 g18 r0 r1 r2 r9 x1 y0
def bM_one_62 (g3 g4 g5 g6 g7 g8 g10 g11 g12 g13 g14 g15 g16 g17 g18 : Int32) (r0 r1 r2 r9 : Nat → Int32) (x1 : Int32) (y0 : Int32) : Int32 × SM := bM_one_62q x1 (sM_guarded g3 g4 g5 g6 g7 g8 g10 g11 g12 g13 g14 g15 g16 g17 g18 r0 r1 r2 r9 y0)
def bM_one_58 (g3 g4 g5 g6 g7 g8 g10 g11 g12 g13 g14 g15 g16 g17 g18 : Int32) (r0 r1 r2 r9 : Nat → Int32) (x1 : Int32) : Int32 × SM := bM_one_62 g3 g4 g5 g6 g7 g8 g10 g11 g12 g13 g14 g15 g16 g17 g18 r0 r1 r2 r9 x1 g7
def bM_one_54 (g3 g4 g5 g6 g7 g8 g10 g11 g12 g13 g14 g15 g16 g17 g18 : Int32) (r0 r1 r2 r9 : Nat → Int32) (x1 : Int32) (x2 : Int32) : Int32 × SM := bM_one_62 g3 g4 g5 g6 g7 g8 g10 g11 g12 g13 g14 g15 g16 g17 g18 r0 r1 r2 r9 x1 x2
def bM_one_44 (g3 g4 g5 g6 g7 g8 g10 g11 g12 g13 g14 g15 g16 g17 g18 : Int32) (r0 r1 r2 r9 : Nat → Int32) (x1 : Int32) (y0 : Int32) : Int32 × SM := if 0 ≤ g7 then bM_one_58 g3 g4 g5 g6 g7 g8 g10 g11 g12 g13 g14 g15 g16 g17 g18 r0 r1 r2 r9 x1 else bM_one_54 g3 g4 g5 g6 g7 g8 g10 g11 g12 g13 g14 g15 g16 g17 g18 r0 r1 r2 r9 x1 y0
def bM_one_41q (x1 : Int32) (q : Int32 × SM) : Int32 × SM := match q with
  | (y0, g3, g4, g5, g6, g7, g8, g10, g11, g12, g13, g14, g15, g16, g17, g18, r0, r1, r2, r9) => bM_one_44 g3 g4 g5 g6 g7 g8 g10 g11 g12 g13 g14 g15 g16 g17 g18 r0 r1 r2 r9 x1 y0
def bM_one_19 (g3 g4 g5 g6 g7 g8 g10 g11 g12 g13 g14 g15 g16 g17 g18 : Int32) (r0 r1 r2 r9 : Nat → Int32) (x1 : Int32) : Int32 × SM := bM_one_41q x1 (sM_commands g3 (g4 ||| (sM_conditionsNow g3 g4 g5 g6 g7 g8 g10 g11 g12 g13 g14 g15 g16 g17 g18 r0 r1 r2 r9)) (sM_conditionsNow g3 g4 g5 g6 g7 g8 g10 g11 g12 g13 g14 g15 g16 g17 g18 r0 r1 r2 r9) g6 g7 g8 g10 g11 g12 g13 g14 g15 g16 g17 g18 r0 r1 r2 r9)
def bM_one_16q (x1 : Int32) (q : SM) : Int32 × SM := match q with
  | (g3, g4, g5, g6, g7, g8, g10, g11, g12, g13, g14, g15, g16, g17, g18, r0, r1, r2, r9) => bM_one_19 g3 g4 g5 g6 g7 g8 g10 g11 g12 g13 g14 g15 g16 g17 g18 r0 r1 r2 r9 x1
def bM_one_0 (g3 g4 g5 g6 g7 g8 g10 g11 g12 g13 g14 g15 g16 g17 g18 : Int32) (r0 r1 r2 r9 : Nat → Int32) : Int32 × SM := bM_one_16q g4 (sM_condition g3 g4 g5 g6 g7 (g8 + 1) g10 g11 g12 g13 g14 g15 g16 g17 g18 r0 r1 r2 r9)
def sM_one (g3 g4 g5 g6 g7 g8 g10 g11 g12 g13 g14 g15 g16 g17 g18 : Int32) (r0 r1 r2 r9 : Nat → Int32) : Int32 × SM := bM_one_0 g3 g4 g5 g6 g7 g8 g10 g11 g12 g13 g14 g15 g16 g17 g18 r0 r1 r2 r9

def bM_tick_46 (g3 g4 g5 g6 g7 g8 g10 g11 g12 g13 g14 g15 g16 g17 g18 : Int32) (r0 r1 r2 r9 : Nat → Int32) (x2 : Int32) : Int32 × SM := (x2, (g3, g4, g5, g6, g7, g8, g10, g11, g12, g13, g14, g15, g16, g17, g18, r0, r1, r2, r9))
def bM_tick_39 (K : Int32 → Int32 → Int32 → Int32 → Int32 → Int32 → Int32 → Int32 → Int32 → Int32 → Int32 → Int32 → Int32 → Int32 → Int32 → (Nat → Int32) → (Nat → Int32) → (Nat → Int32) → (Nat → Int32) → Int32 → Int32 → Int32 → Int32 × SM) (g3 g4 g5 g6 g7 g8 g10 g11 g12 g13 g14 g15 g16 g17 g18 : Int32) (r0 r1 r2 r9 : Nat → Int32) (x1 : Int32) (x2 : Int32) (y0 : Int32) : Int32 × SM := K g3 g4 g5 g6 g7 g8 g10 g11 g12 g13 g14 g15 g16 g17 g18 r0 r1 r2 r9 x1 (x2 + 1) y0
def bM_tick_38 (K : Int32 → Int32 → Int32 → Int32 → Int32 → Int32 → Int32 → Int32 → Int32 → Int32 → Int32 → Int32 → Int32 → Int32 → Int32 → (Nat → Int32) → (Nat → Int32) → (Nat → Int32) → (Nat → Int32) → Int32 → Int32 → Int32 → Int32 × SM) (g3 g4 g5 g6 g7 g8 g10 g11 g12 g13 g14 g15 g16 g17 g18 : Int32) (r0 r1 r2 r9 : Nat → Int32) (x1 : Int32) (x2 : Int32) : Int32 × SM := bM_tick_39 K g3 g4 g5 g6 g7 g8 g10 g11 g12 g13 g14 g15 g16 g17 g18 r0 r1 r2 r9 x1 x2 0
def bM_tick_34 (K : Int32 → Int32 → Int32 → Int32 → Int32 → Int32 → Int32 → Int32 → Int32 → Int32 → Int32 → Int32 → Int32 → Int32 → Int32 → (Nat → Int32) → (Nat → Int32) → (Nat → Int32) → (Nat → Int32) → Int32 → Int32 → Int32 → Int32 × SM) (g3 g4 g5 g6 g7 g8 g10 g11 g12 g13 g14 g15 g16 g17 g18 : Int32) (r0 r1 r2 r9 : Nat → Int32) (x1 : Int32) (x2 : Int32) : Int32 × SM := bM_tick_39 K g3 g4 g5 g6 g7 g8 g10 g11 g12 g13 g14 g15 g16 g17 g18 r0 r1 r2 r9 x1 x2 1
def bM_tick_31 (K : Int32 → Int32 → Int32 → Int32 → Int32 → Int32 → Int32 → Int32 → Int32 → Int32 → Int32 → Int32 → Int32 → Int32 → Int32 → (Nat → Int32) → (Nat → Int32) → (Nat → Int32) → (Nat → Int32) → Int32 → Int32 → Int32 → Int32 × SM) (g3 g4 g5 g6 g7 g8 g10 g11 g12 g13 g14 g15 g16 g17 g18 : Int32) (r0 r1 r2 r9 : Nat → Int32) (x1 : Int32) (x2 : Int32) (y0 : Int32) : Int32 × SM := if y0 = 0 then bM_tick_34 K g3 g4 g5 g6 g7 g8 g10 g11 g12 g13 g14 g15 g16 g17 g18 r0 r1 r2 r9 x1 x2 else bM_tick_38 K g3 g4 g5 g6 g7 g8 g10 g11 g12 g13 g14 g15 g16 g17 g18 r0 r1 r2 r9 x1 x2
def bM_tick_28q (K : Int32 → Int32 → Int32 → Int32 → Int32 → Int32 → Int32 → Int32 → Int32 → Int32 → Int32 → Int32 → Int32 → Int32 → Int32 → (Nat → Int32) → (Nat → Int32) → (Nat → Int32) → (Nat → Int32) → Int32 → Int32 → Int32 → Int32 × SM) (x1 : Int32) (x2 : Int32) (q : Int32 × SM) : Int32 × SM := match q with
  | (y0, g3, g4, g5, g6, g7, g8, g10, g11, g12, g13, g14, g15, g16, g17, g18, r0, r1, r2, r9) => bM_tick_31 K g3 g4 g5 g6 g7 g8 g10 g11 g12 g13 g14 g15 g16 g17 g18 r0 r1 r2 r9 x1 x2 y0
def bM_tick_27 (K : Int32 → Int32 → Int32 → Int32 → Int32 → Int32 → Int32 → Int32 → Int32 → Int32 → Int32 → Int32 → Int32 → Int32 → Int32 → (Nat → Int32) → (Nat → Int32) → (Nat → Int32) → (Nat → Int32) → Int32 → Int32 → Int32 → Int32 × SM) (g3 g4 g5 g6 g7 g8 g10 g11 g12 g13 g14 g15 g16 g17 g18 : Int32) (r0 r1 r2 r9 : Nat → Int32) (x1 : Int32) (x2 : Int32) : Int32 × SM := bM_tick_28q K x1 x2 (sM_one g3 g4 g5 g6 g7 g8 g10 g11 g12 g13 g14 g15 g16 g17 g18 r0 r1 r2 r9)
def bM_tick_23 (K : Int32 → Int32 → Int32 → Int32 → Int32 → Int32 → Int32 → Int32 → Int32 → Int32 → Int32 → Int32 → Int32 → Int32 → Int32 → (Nat → Int32) → (Nat → Int32) → (Nat → Int32) → (Nat → Int32) → Int32 → Int32 → Int32 → Int32 × SM) (g3 g4 g5 g6 g7 g8 g10 g11 g12 g13 g14 g15 g16 g17 g18 : Int32) (r0 r1 r2 r9 : Nat → Int32) (x1 : Int32) (x2 : Int32) (x3 : Int32) : Int32 × SM := if x3 = 0 then bM_tick_46 g3 g4 g5 g6 g7 g8 g10 g11 g12 g13 g14 g15 g16 g17 g18 r0 r1 r2 r9 x2 else bM_tick_27 K g3 g4 g5 g6 g7 g8 g10 g11 g12 g13 g14 g15 g16 g17 g18 r0 r1 r2 r9 x1 x2
def bM_tick_18 : Nat → Int32 → Int32 → Int32 → Int32 → Int32 → Int32 → Int32 → Int32 → Int32 → Int32 → Int32 → Int32 → Int32 → Int32 → Int32 → (Nat → Int32) → (Nat → Int32) → (Nat → Int32) → (Nat → Int32) → Int32 → Int32 → Int32 → Int32 × SM
  | 0 => fun g3 g4 g5 g6 g7 g8 g10 g11 g12 g13 g14 g15 g16 g17 g18 r0 r1 r2 r9 x1 x2 x3 => (0, (g3, g4, g5, g6, g7, g8, g10, g11, g12, g13, g14, g15, g16, g17, g18, r0, r1, r2, r9))
  | n + 1 => fun g3 g4 g5 g6 g7 g8 g10 g11 g12 g13 g14 g15 g16 g17 g18 r0 r1 r2 r9 x1 x2 x3 => if x1 ≤ x2 then bM_tick_46 g3 g4 g5 g6 g7 g8 g10 g11 g12 g13 g14 g15 g16 g17 g18 r0 r1 r2 r9 x2 else bM_tick_23 (bM_tick_18 n) g3 g4 g5 g6 g7 g8 g10 g11 g12 g13 g14 g15 g16 g17 g18 r0 r1 r2 r9 x1 x2 x3
theorem bM_tick_18_s (n : Nat) (g3 g4 g5 g6 g7 g8 g10 g11 g12 g13 g14 g15 g16 g17 g18 : Int32) (r0 r1 r2 r9 : Nat → Int32) (x1 : Int32) (x2 : Int32) (x3 : Int32) : bM_tick_18 (n + 1) g3 g4 g5 g6 g7 g8 g10 g11 g12 g13 g14 g15 g16 g17 g18 r0 r1 r2 r9 x1 x2 x3 = if x1 ≤ x2 then bM_tick_46 g3 g4 g5 g6 g7 g8 g10 g11 g12 g13 g14 g15 g16 g17 g18 r0 r1 r2 r9 x2 else bM_tick_23 (bM_tick_18 n) g3 g4 g5 g6 g7 g8 g10 g11 g12 g13 g14 g15 g16 g17 g18 r0 r1 r2 r9 x1 x2 x3 := rfl
def bM_tick_14 (g3 g4 g5 g6 g7 g8 g10 g11 g12 g13 g14 g15 g16 g17 g18 : Int32) (r0 r1 r2 r9 : Nat → Int32) (x1 : Int32) : Int32 × SM := bM_tick_18 601 g3 g4 g5 g6 g7 g8 g10 g11 g12 g13 g14 g15 g16 g17 g18 r0 r1 r2 r9 x1 0 1
def bM_tick_12 (g3 g4 g5 g6 g7 g8 g10 g11 g12 g13 g14 g15 g16 g17 g18 : Int32) (r0 r1 r2 r9 : Nat → Int32) : Int32 × SM := ((-1), (g3, g4, g5, g6, g7, g8, g10, g11, g12, g13, g14, g15, g16, g17, g18, r0, r1, r2, r9))
def bM_tick_5 (g3 g4 g5 g6 g7 g8 g10 g11 g12 g13 g14 g15 g16 g17 g18 : Int32) (r0 r1 r2 r9 : Nat → Int32) (x1 : Int32) : Int32 × SM := if x1 ≤ 600 then bM_tick_14 g3 g4 g5 g6 g7 g8 g10 g11 g12 g13 g14 g15 g16 g17 g18 r0 r1 r2 r9 x1 else bM_tick_12 g3 g4 g5 g6 g7 g8 g10 g11 g12 g13 g14 g15 g16 g17 g18 r0 r1 r2 r9
def bM_tick_0 (g3 g4 g5 g6 g7 g8 g10 g11 g12 g13 g14 g15 g16 g17 g18 : Int32) (r0 r1 r2 r9 : Nat → Int32) (x1 : Int32) : Int32 × SM := if x1 < 1 then bM_tick_12 g3 g4 g5 g6 g7 g8 g10 g11 g12 g13 g14 g15 g16 g17 g18 r0 r1 r2 r9 else bM_tick_5 g3 g4 g5 g6 g7 g8 g10 g11 g12 g13 g14 g15 g16 g17 g18 r0 r1 r2 r9 x1
def sM_tick (g3 g4 g5 g6 g7 g8 g10 g11 g12 g13 g14 g15 g16 g17 g18 : Int32) (r0 r1 r2 r9 : Nat → Int32) (k1 : Int32) : Int32 × SM := bM_tick_0 g3 g4 g5 g6 g7 g8 g10 g11 g12 g13 g14 g15 g16 g17 g18 r0 r1 r2 r9 k1

def bM_phase_0 (g3 g4 g5 g6 g7 g8 g10 g11 g12 g13 g14 g15 g16 g17 g18 : Int32) (r0 r1 r2 r9 : Nat → Int32) : Int32 := g3
def sM_phase (g3 g4 g5 g6 g7 g8 g10 g11 g12 g13 g14 g15 g16 g17 g18 : Int32) (r0 r1 r2 r9 : Nat → Int32) : Int32 := bM_phase_0 g3 g4 g5 g6 g7 g8 g10 g11 g12 g13 g14 g15 g16 g17 g18 r0 r1 r2 r9

def bM_alarms_0 (g3 g4 g5 g6 g7 g8 g10 g11 g12 g13 g14 g15 g16 g17 g18 : Int32) (r0 r1 r2 r9 : Nat → Int32) : Int32 := g4
def sM_alarms (g3 g4 g5 g6 g7 g8 g10 g11 g12 g13 g14 g15 g16 g17 g18 : Int32) (r0 r1 r2 r9 : Nat → Int32) : Int32 := bM_alarms_0 g3 g4 g5 g6 g7 g8 g10 g11 g12 g13 g14 g15 g16 g17 g18 r0 r1 r2 r9

def bM_conditions_0 (g3 g4 g5 g6 g7 g8 g10 g11 g12 g13 g14 g15 g16 g17 g18 : Int32) (r0 r1 r2 r9 : Nat → Int32) : Int32 := g5
def sM_conditions (g3 g4 g5 g6 g7 g8 g10 g11 g12 g13 g14 g15 g16 g17 g18 : Int32) (r0 r1 r2 r9 : Nat → Int32) : Int32 := bM_conditions_0 g3 g4 g5 g6 g7 g8 g10 g11 g12 g13 g14 g15 g16 g17 g18 r0 r1 r2 r9

def bM_outputs_0 (g3 g4 g5 g6 g7 g8 g10 g11 g12 g13 g14 g15 g16 g17 g18 : Int32) (r0 r1 r2 r9 : Nat → Int32) : Int32 := g6
def sM_outputs (g3 g4 g5 g6 g7 g8 g10 g11 g12 g13 g14 g15 g16 g17 g18 : Int32) (r0 r1 r2 r9 : Nat → Int32) : Int32 := bM_outputs_0 g3 g4 g5 g6 g7 g8 g10 g11 g12 g13 g14 g15 g16 g17 g18 r0 r1 r2 r9

def bM_effective_0 (g3 g4 g5 g6 g7 g8 g10 g11 g12 g13 g14 g15 g16 g17 g18 : Int32) (r0 r1 r2 r9 : Nat → Int32) : Int32 := g14
def sM_effective (g3 g4 g5 g6 g7 g8 g10 g11 g12 g13 g14 g15 g16 g17 g18 : Int32) (r0 r1 r2 r9 : Nat → Int32) : Int32 := bM_effective_0 g3 g4 g5 g6 g7 g8 g10 g11 g12 g13 g14 g15 g16 g17 g18 r0 r1 r2 r9

def bM_accounted_0 (g3 g4 g5 g6 g7 g8 g10 g11 g12 g13 g14 g15 g16 g17 g18 : Int32) (r0 r1 r2 r9 : Nat → Int32) : Int32 := 500 * g15
def sM_accounted (g3 g4 g5 g6 g7 g8 g10 g11 g12 g13 g14 g15 g16 g17 g18 : Int32) (r0 r1 r2 r9 : Nat → Int32) : Int32 := bM_accounted_0 g3 g4 g5 g6 g7 g8 g10 g11 g12 g13 g14 g15 g16 g17 g18 r0 r1 r2 r9

def bM_strokes_0 (g3 g4 g5 g6 g7 g8 g10 g11 g12 g13 g14 g15 g16 g17 g18 : Int32) (r0 r1 r2 r9 : Nat → Int32) : Int32 := g16
def sM_strokes (g3 g4 g5 g6 g7 g8 g10 g11 g12 g13 g14 g15 g16 g17 g18 : Int32) (r0 r1 r2 r9 : Nat → Int32) : Int32 := bM_strokes_0 g3 g4 g5 g6 g7 g8 g10 g11 g12 g13 g14 g15 g16 g17 g18 r0 r1 r2 r9

def bM_trips_0 (g3 g4 g5 g6 g7 g8 g10 g11 g12 g13 g14 g15 g16 g17 g18 : Int32) (r0 r1 r2 r9 : Nat → Int32) : Int32 := g17
def sM_trips (g3 g4 g5 g6 g7 g8 g10 g11 g12 g13 g14 g15 g16 g17 g18 : Int32) (r0 r1 r2 r9 : Nat → Int32) : Int32 := bM_trips_0 g3 g4 g5 g6 g7 g8 g10 g11 g12 g13 g14 g15 g16 g17 g18 r0 r1 r2 r9

def bM_counted_0 (g3 g4 g5 g6 g7 g8 g10 g11 g12 g13 g14 g15 g16 g17 g18 : Int32) (r0 r1 r2 r9 : Nat → Int32) : Int32 := g18
def sM_counted (g3 g4 g5 g6 g7 g8 g10 g11 g12 g13 g14 g15 g16 g17 g18 : Int32) (r0 r1 r2 r9 : Nat → Int32) : Int32 := bM_counted_0 g3 g4 g5 g6 g7 g8 g10 g11 g12 g13 g14 g15 g16 g17 g18 r0 r1 r2 r9

def bM_steady_0 (g3 g4 g5 g6 g7 g8 g10 g11 g12 g13 g14 g15 g16 g17 g18 : Int32) (r0 r1 r2 r9 : Nat → Int32) : Int32 := g8 - g13
def sM_steady (g3 g4 g5 g6 g7 g8 g10 g11 g12 g13 g14 g15 g16 g17 g18 : Int32) (r0 r1 r2 r9 : Nat → Int32) : Int32 := bM_steady_0 g3 g4 g5 g6 g7 g8 g10 g11 g12 g13 g14 g15 g16 g17 g18 r0 r1 r2 r9
def bM_init_208 (K : Int32 → Int32 → Int32 → Int32 → Int32 → Int32 → Int32 → Int32 → Int32 → Int32 → Int32 → Int32 → Int32 → Int32 → Int32 → (Nat → Int32) → (Nat → Int32) → (Nat → Int32) → (Nat → Int32) → Int32 → SM) (g3 g4 g5 g6 g7 g8 g10 g11 g12 g13 g14 g15 g16 g17 g18 : Int32) (r0 r1 r2 r9 : Nat → Int32) (x1 : Int32) (y0 : Int32) (y1 : Int32) : SM := K g3 g4 g5 g6 g7 g8 g10 g11 g12 g13 g14 g15 g16 g17 g18 r0 (upd r1 y1.toNatClampNeg y0) (upd r2 x1.toNatClampNeg ((upd r1 y1.toNatClampNeg y0) x1.toNatClampNeg)) r9 (x1 + 1)
def bM_init_207 (K : Int32 → Int32 → Int32 → Int32 → Int32 → Int32 → Int32 → Int32 → Int32 → Int32 → Int32 → Int32 → Int32 → Int32 → Int32 → (Nat → Int32) → (Nat → Int32) → (Nat → Int32) → (Nat → Int32) → Int32 → SM) (g3 g4 g5 g6 g7 g8 g10 g11 g12 g13 g14 g15 g16 g17 g18 : Int32) (r0 r1 r2 r9 : Nat → Int32) (x1 : Int32) (y0 : Int32) : SM := bM_init_208 K g3 g4 g5 g6 g7 g8 g10 g11 g12 g13 g14 g15 g16 g17 g18 r0 r1 r2 r9 x1 0 y0
def bM_init_201 (K : Int32 → Int32 → Int32 → Int32 → Int32 → Int32 → Int32 → Int32 → Int32 → Int32 → Int32 → Int32 → Int32 → Int32 → Int32 → (Nat → Int32) → (Nat → Int32) → (Nat → Int32) → (Nat → Int32) → Int32 → SM) (g3 g4 g5 g6 g7 g8 g10 g11 g12 g13 g14 g15 g16 g17 g18 : Int32) (r0 r1 r2 r9 : Nat → Int32) (x1 : Int32) (y0 : Int32) : SM := bM_init_208 K g3 g4 g5 g6 g7 g8 g10 g11 g12 g13 g14 g15 g16 g17 g18 r0 r1 r2 r9 x1 1400 y0
def bM_init_196 (K : Int32 → Int32 → Int32 → Int32 → Int32 → Int32 → Int32 → Int32 → Int32 → Int32 → Int32 → Int32 → Int32 → Int32 → Int32 → (Nat → Int32) → (Nat → Int32) → (Nat → Int32) → (Nat → Int32) → Int32 → SM) (g3 g4 g5 g6 g7 g8 g10 g11 g12 g13 g14 g15 g16 g17 g18 : Int32) (r0 r1 r2 r9 : Nat → Int32) (x1 : Int32) (y0 : Int32) : SM := if x1 = 3 then bM_init_201 K g3 g4 g5 g6 g7 g8 g10 g11 g12 g13 g14 g15 g16 g17 g18 r0 r1 r2 r9 x1 y0 else bM_init_207 K g3 g4 g5 g6 g7 g8 g10 g11 g12 g13 g14 g15 g16 g17 g18 r0 r1 r2 r9 x1 y0
def bM_init_190 (K : Int32 → Int32 → Int32 → Int32 → Int32 → Int32 → Int32 → Int32 → Int32 → Int32 → Int32 → Int32 → Int32 → Int32 → Int32 → (Nat → Int32) → (Nat → Int32) → (Nat → Int32) → (Nat → Int32) → Int32 → SM) (g3 g4 g5 g6 g7 g8 g10 g11 g12 g13 g14 g15 g16 g17 g18 : Int32) (r0 r1 r2 r9 : Nat → Int32) (x1 : Int32) (y0 : Int32) : SM := bM_init_208 K g3 g4 g5 g6 g7 g8 g10 g11 g12 g13 g14 g15 g16 g17 g18 r0 r1 r2 r9 x1 370 y0
def bM_init_185 (K : Int32 → Int32 → Int32 → Int32 → Int32 → Int32 → Int32 → Int32 → Int32 → Int32 → Int32 → Int32 → Int32 → Int32 → Int32 → (Nat → Int32) → (Nat → Int32) → (Nat → Int32) → (Nat → Int32) → Int32 → SM) (g3 g4 g5 g6 g7 g8 g10 g11 g12 g13 g14 g15 g16 g17 g18 : Int32) (r0 r1 r2 r9 : Nat → Int32) (x1 : Int32) (y0 : Int32) : SM := if x1 = 2 then bM_init_190 K g3 g4 g5 g6 g7 g8 g10 g11 g12 g13 g14 g15 g16 g17 g18 r0 r1 r2 r9 x1 y0 else bM_init_196 K g3 g4 g5 g6 g7 g8 g10 g11 g12 g13 g14 g15 g16 g17 g18 r0 r1 r2 r9 x1 y0
def bM_init_180 (K : Int32 → Int32 → Int32 → Int32 → Int32 → Int32 → Int32 → Int32 → Int32 → Int32 → Int32 → Int32 → Int32 → Int32 → Int32 → (Nat → Int32) → (Nat → Int32) → (Nat → Int32) → (Nat → Int32) → Int32 → SM) (g3 g4 g5 g6 g7 g8 g10 g11 g12 g13 g14 g15 g16 g17 g18 : Int32) (r0 r1 r2 r9 : Nat → Int32) (x1 : Int32) (y0 : Int32) : SM := bM_init_208 K g3 g4 g5 g6 g7 g8 g10 g11 g12 g13 g14 g15 g16 g17 g18 r0 r1 r2 r9 x1 100 y0
def bM_init_170 (K : Int32 → Int32 → Int32 → Int32 → Int32 → Int32 → Int32 → Int32 → Int32 → Int32 → Int32 → Int32 → Int32 → Int32 → Int32 → (Nat → Int32) → (Nat → Int32) → (Nat → Int32) → (Nat → Int32) → Int32 → SM) (g3 g4 g5 g6 g7 g8 g10 g11 g12 g13 g14 g15 g16 g17 g18 : Int32) (r0 r1 r2 r9 : Nat → Int32) (x1 : Int32) : SM := if x1 = 1 then bM_init_180 K g3 g4 g5 g6 g7 g8 g10 g11 g12 g13 g14 g15 g16 g17 g18 r0 r1 r2 r9 x1 x1 else bM_init_185 K g3 g4 g5 g6 g7 g8 g10 g11 g12 g13 g14 g15 g16 g17 g18 r0 r1 r2 r9 x1 x1
def bM_init_164 : Nat → Int32 → Int32 → Int32 → Int32 → Int32 → Int32 → Int32 → Int32 → Int32 → Int32 → Int32 → Int32 → Int32 → Int32 → Int32 → (Nat → Int32) → (Nat → Int32) → (Nat → Int32) → (Nat → Int32) → Int32 → SM
  | 0 => fun g3 g4 g5 g6 g7 g8 g10 g11 g12 g13 g14 g15 g16 g17 g18 r0 r1 r2 r9 x1 => (g3, g4, g5, g6, g7, g8, g10, g11, g12, g13, g14, g15, g16, g17, g18, r0, r1, r2, r9)
  | n + 1 => fun g3 g4 g5 g6 g7 g8 g10 g11 g12 g13 g14 g15 g16 g17 g18 r0 r1 r2 r9 x1 => if 6 ≤ x1 then (g3, g4, g5, g6, g7, g8, g10, g11, g12, g13, g14, g15, g16, g17, g18, r0, r1, r2, r9) else bM_init_170 (bM_init_164 n) g3 g4 g5 g6 g7 g8 g10 g11 g12 g13 g14 g15 g16 g17 g18 r0 r1 r2 r9 x1
theorem bM_init_164_s (n : Nat) (g3 g4 g5 g6 g7 g8 g10 g11 g12 g13 g14 g15 g16 g17 g18 : Int32) (r0 r1 r2 r9 : Nat → Int32) (x1 : Int32) : bM_init_164 (n + 1) g3 g4 g5 g6 g7 g8 g10 g11 g12 g13 g14 g15 g16 g17 g18 r0 r1 r2 r9 x1 = if 6 ≤ x1 then (g3, g4, g5, g6, g7, g8, g10, g11, g12, g13, g14, g15, g16, g17, g18, r0, r1, r2, r9) else bM_init_170 (bM_init_164 n) g3 g4 g5 g6 g7 g8 g10 g11 g12 g13 g14 g15 g16 g17 g18 r0 r1 r2 r9 x1 := rfl
def bM_init_162 (g3 g4 g5 g6 g7 g8 g10 g11 g12 g13 g14 g15 g16 g17 g18 : Int32) (r0 r1 r2 r9 : Nat → Int32) : SM := bM_init_164 7 g3 g4 g5 g6 g7 g8 g10 g11 g12 g13 g14 g15 g16 g17 g18 r0 r1 r2 r9 0
def bM_init_155 (K : Int32 → Int32 → Int32 → Int32 → Int32 → Int32 → Int32 → Int32 → Int32 → Int32 → Int32 → Int32 → Int32 → Int32 → Int32 → (Nat → Int32) → (Nat → Int32) → (Nat → Int32) → (Nat → Int32) → Int32 → SM) (g3 g4 g5 g6 g7 g8 g10 g11 g12 g13 g14 g15 g16 g17 g18 : Int32) (r0 r1 r2 r9 : Nat → Int32) (x1 : Int32) (y0 : Int32) (y1 : Int32) : SM := K g3 g4 g5 g6 g7 g8 g10 g11 g12 g13 g14 g15 g16 g17 g18 (upd r0 y1.toNatClampNeg y0) r1 r2 r9 (x1 + 1)
def bM_init_154 (K : Int32 → Int32 → Int32 → Int32 → Int32 → Int32 → Int32 → Int32 → Int32 → Int32 → Int32 → Int32 → Int32 → Int32 → Int32 → (Nat → Int32) → (Nat → Int32) → (Nat → Int32) → (Nat → Int32) → Int32 → SM) (g3 g4 g5 g6 g7 g8 g10 g11 g12 g13 g14 g15 g16 g17 g18 : Int32) (r0 r1 r2 r9 : Nat → Int32) (x1 : Int32) (y0 : Int32) : SM := bM_init_155 K g3 g4 g5 g6 g7 g8 g10 g11 g12 g13 g14 g15 g16 g17 g18 r0 r1 r2 r9 x1 0 y0
def bM_init_148 (K : Int32 → Int32 → Int32 → Int32 → Int32 → Int32 → Int32 → Int32 → Int32 → Int32 → Int32 → Int32 → Int32 → Int32 → Int32 → (Nat → Int32) → (Nat → Int32) → (Nat → Int32) → (Nat → Int32) → Int32 → SM) (g3 g4 g5 g6 g7 g8 g10 g11 g12 g13 g14 g15 g16 g17 g18 : Int32) (r0 r1 r2 r9 : Nat → Int32) (x1 : Int32) (y0 : Int32) : SM := bM_init_155 K g3 g4 g5 g6 g7 g8 g10 g11 g12 g13 g14 g15 g16 g17 g18 r0 r1 r2 r9 x1 300 y0
def bM_init_142 (K : Int32 → Int32 → Int32 → Int32 → Int32 → Int32 → Int32 → Int32 → Int32 → Int32 → Int32 → Int32 → Int32 → Int32 → Int32 → (Nat → Int32) → (Nat → Int32) → (Nat → Int32) → (Nat → Int32) → Int32 → SM) (g3 g4 g5 g6 g7 g8 g10 g11 g12 g13 g14 g15 g16 g17 g18 : Int32) (r0 r1 r2 r9 : Nat → Int32) (x1 : Int32) (y0 : Int32) : SM := if x1 = 9 then bM_init_148 K g3 g4 g5 g6 g7 g8 g10 g11 g12 g13 g14 g15 g16 g17 g18 r0 r1 r2 r9 x1 y0 else bM_init_154 K g3 g4 g5 g6 g7 g8 g10 g11 g12 g13 g14 g15 g16 g17 g18 r0 r1 r2 r9 x1 y0
def bM_init_137 (K : Int32 → Int32 → Int32 → Int32 → Int32 → Int32 → Int32 → Int32 → Int32 → Int32 → Int32 → Int32 → Int32 → Int32 → Int32 → (Nat → Int32) → (Nat → Int32) → (Nat → Int32) → (Nat → Int32) → Int32 → SM) (g3 g4 g5 g6 g7 g8 g10 g11 g12 g13 g14 g15 g16 g17 g18 : Int32) (r0 r1 r2 r9 : Nat → Int32) (x1 : Int32) (y0 : Int32) : SM := bM_init_155 K g3 g4 g5 g6 g7 g8 g10 g11 g12 g13 g14 g15 g16 g17 g18 r0 r1 r2 r9 x1 50 y0
def bM_init_131 (K : Int32 → Int32 → Int32 → Int32 → Int32 → Int32 → Int32 → Int32 → Int32 → Int32 → Int32 → Int32 → Int32 → Int32 → Int32 → (Nat → Int32) → (Nat → Int32) → (Nat → Int32) → (Nat → Int32) → Int32 → SM) (g3 g4 g5 g6 g7 g8 g10 g11 g12 g13 g14 g15 g16 g17 g18 : Int32) (r0 r1 r2 r9 : Nat → Int32) (x1 : Int32) (y0 : Int32) : SM := if x1 = 8 then bM_init_137 K g3 g4 g5 g6 g7 g8 g10 g11 g12 g13 g14 g15 g16 g17 g18 r0 r1 r2 r9 x1 y0 else bM_init_142 K g3 g4 g5 g6 g7 g8 g10 g11 g12 g13 g14 g15 g16 g17 g18 r0 r1 r2 r9 x1 y0
def bM_init_126 (K : Int32 → Int32 → Int32 → Int32 → Int32 → Int32 → Int32 → Int32 → Int32 → Int32 → Int32 → Int32 → Int32 → Int32 → Int32 → (Nat → Int32) → (Nat → Int32) → (Nat → Int32) → (Nat → Int32) → Int32 → SM) (g3 g4 g5 g6 g7 g8 g10 g11 g12 g13 g14 g15 g16 g17 g18 : Int32) (r0 r1 r2 r9 : Nat → Int32) (x1 : Int32) (y0 : Int32) : SM := bM_init_155 K g3 g4 g5 g6 g7 g8 g10 g11 g12 g13 g14 g15 g16 g17 g18 r0 r1 r2 r9 x1 100 y0
def bM_init_120 (K : Int32 → Int32 → Int32 → Int32 → Int32 → Int32 → Int32 → Int32 → Int32 → Int32 → Int32 → Int32 → Int32 → Int32 → Int32 → (Nat → Int32) → (Nat → Int32) → (Nat → Int32) → (Nat → Int32) → Int32 → SM) (g3 g4 g5 g6 g7 g8 g10 g11 g12 g13 g14 g15 g16 g17 g18 : Int32) (r0 r1 r2 r9 : Nat → Int32) (x1 : Int32) (y0 : Int32) : SM := if x1 = 7 then bM_init_126 K g3 g4 g5 g6 g7 g8 g10 g11 g12 g13 g14 g15 g16 g17 g18 r0 r1 r2 r9 x1 y0 else bM_init_131 K g3 g4 g5 g6 g7 g8 g10 g11 g12 g13 g14 g15 g16 g17 g18 r0 r1 r2 r9 x1 y0
def bM_init_114 (K : Int32 → Int32 → Int32 → Int32 → Int32 → Int32 → Int32 → Int32 → Int32 → Int32 → Int32 → Int32 → Int32 → Int32 → Int32 → (Nat → Int32) → (Nat → Int32) → (Nat → Int32) → (Nat → Int32) → Int32 → SM) (g3 g4 g5 g6 g7 g8 g10 g11 g12 g13 g14 g15 g16 g17 g18 : Int32) (r0 r1 r2 r9 : Nat → Int32) (x1 : Int32) (y0 : Int32) : SM := bM_init_155 K g3 g4 g5 g6 g7 g8 g10 g11 g12 g13 g14 g15 g16 g17 g18 r0 r1 r2 r9 x1 ((-200)) y0
def bM_init_108 (K : Int32 → Int32 → Int32 → Int32 → Int32 → Int32 → Int32 → Int32 → Int32 → Int32 → Int32 → Int32 → Int32 → Int32 → Int32 → (Nat → Int32) → (Nat → Int32) → (Nat → Int32) → (Nat → Int32) → Int32 → SM) (g3 g4 g5 g6 g7 g8 g10 g11 g12 g13 g14 g15 g16 g17 g18 : Int32) (r0 r1 r2 r9 : Nat → Int32) (x1 : Int32) (y0 : Int32) : SM := if x1 = 6 then bM_init_114 K g3 g4 g5 g6 g7 g8 g10 g11 g12 g13 g14 g15 g16 g17 g18 r0 r1 r2 r9 x1 y0 else bM_init_120 K g3 g4 g5 g6 g7 g8 g10 g11 g12 g13 g14 g15 g16 g17 g18 r0 r1 r2 r9 x1 y0
def bM_init_102 (K : Int32 → Int32 → Int32 → Int32 → Int32 → Int32 → Int32 → Int32 → Int32 → Int32 → Int32 → Int32 → Int32 → Int32 → Int32 → (Nat → Int32) → (Nat → Int32) → (Nat → Int32) → (Nat → Int32) → Int32 → SM) (g3 g4 g5 g6 g7 g8 g10 g11 g12 g13 g14 g15 g16 g17 g18 : Int32) (r0 r1 r2 r9 : Nat → Int32) (x1 : Int32) (y0 : Int32) : SM := bM_init_155 K g3 g4 g5 g6 g7 g8 g10 g11 g12 g13 g14 g15 g16 g17 g18 r0 r1 r2 r9 x1 1400 y0
def bM_init_97 (K : Int32 → Int32 → Int32 → Int32 → Int32 → Int32 → Int32 → Int32 → Int32 → Int32 → Int32 → Int32 → Int32 → Int32 → Int32 → (Nat → Int32) → (Nat → Int32) → (Nat → Int32) → (Nat → Int32) → Int32 → SM) (g3 g4 g5 g6 g7 g8 g10 g11 g12 g13 g14 g15 g16 g17 g18 : Int32) (r0 r1 r2 r9 : Nat → Int32) (x1 : Int32) (y0 : Int32) : SM := if x1 = 5 then bM_init_102 K g3 g4 g5 g6 g7 g8 g10 g11 g12 g13 g14 g15 g16 g17 g18 r0 r1 r2 r9 x1 y0 else bM_init_108 K g3 g4 g5 g6 g7 g8 g10 g11 g12 g13 g14 g15 g16 g17 g18 r0 r1 r2 r9 x1 y0
def bM_init_91 (K : Int32 → Int32 → Int32 → Int32 → Int32 → Int32 → Int32 → Int32 → Int32 → Int32 → Int32 → Int32 → Int32 → Int32 → Int32 → (Nat → Int32) → (Nat → Int32) → (Nat → Int32) → (Nat → Int32) → Int32 → SM) (g3 g4 g5 g6 g7 g8 g10 g11 g12 g13 g14 g15 g16 g17 g18 : Int32) (r0 r1 r2 r9 : Nat → Int32) (x1 : Int32) (y0 : Int32) : SM := bM_init_155 K g3 g4 g5 g6 g7 g8 g10 g11 g12 g13 g14 g15 g16 g17 g18 r0 r1 r2 r9 x1 370 y0
def bM_init_86 (K : Int32 → Int32 → Int32 → Int32 → Int32 → Int32 → Int32 → Int32 → Int32 → Int32 → Int32 → Int32 → Int32 → Int32 → Int32 → (Nat → Int32) → (Nat → Int32) → (Nat → Int32) → (Nat → Int32) → Int32 → SM) (g3 g4 g5 g6 g7 g8 g10 g11 g12 g13 g14 g15 g16 g17 g18 : Int32) (r0 r1 r2 r9 : Nat → Int32) (x1 : Int32) (y0 : Int32) : SM := if x1 = 4 then bM_init_91 K g3 g4 g5 g6 g7 g8 g10 g11 g12 g13 g14 g15 g16 g17 g18 r0 r1 r2 r9 x1 y0 else bM_init_97 K g3 g4 g5 g6 g7 g8 g10 g11 g12 g13 g14 g15 g16 g17 g18 r0 r1 r2 r9 x1 y0
def bM_init_80 (K : Int32 → Int32 → Int32 → Int32 → Int32 → Int32 → Int32 → Int32 → Int32 → Int32 → Int32 → Int32 → Int32 → Int32 → Int32 → (Nat → Int32) → (Nat → Int32) → (Nat → Int32) → (Nat → Int32) → Int32 → SM) (g3 g4 g5 g6 g7 g8 g10 g11 g12 g13 g14 g15 g16 g17 g18 : Int32) (r0 r1 r2 r9 : Nat → Int32) (x1 : Int32) (y0 : Int32) : SM := bM_init_155 K g3 g4 g5 g6 g7 g8 g10 g11 g12 g13 g14 g15 g16 g17 g18 r0 r1 r2 r9 x1 240 y0
def bM_init_75 (K : Int32 → Int32 → Int32 → Int32 → Int32 → Int32 → Int32 → Int32 → Int32 → Int32 → Int32 → Int32 → Int32 → Int32 → Int32 → (Nat → Int32) → (Nat → Int32) → (Nat → Int32) → (Nat → Int32) → Int32 → SM) (g3 g4 g5 g6 g7 g8 g10 g11 g12 g13 g14 g15 g16 g17 g18 : Int32) (r0 r1 r2 r9 : Nat → Int32) (x1 : Int32) (y0 : Int32) : SM := if x1 = 3 then bM_init_80 K g3 g4 g5 g6 g7 g8 g10 g11 g12 g13 g14 g15 g16 g17 g18 r0 r1 r2 r9 x1 y0 else bM_init_86 K g3 g4 g5 g6 g7 g8 g10 g11 g12 g13 g14 g15 g16 g17 g18 r0 r1 r2 r9 x1 y0
def bM_init_69 (K : Int32 → Int32 → Int32 → Int32 → Int32 → Int32 → Int32 → Int32 → Int32 → Int32 → Int32 → Int32 → Int32 → Int32 → Int32 → (Nat → Int32) → (Nat → Int32) → (Nat → Int32) → (Nat → Int32) → Int32 → SM) (g3 g4 g5 g6 g7 g8 g10 g11 g12 g13 g14 g15 g16 g17 g18 : Int32) (r0 r1 r2 r9 : Nat → Int32) (x1 : Int32) (y0 : Int32) : SM := bM_init_155 K g3 g4 g5 g6 g7 g8 g10 g11 g12 g13 g14 g15 g16 g17 g18 r0 r1 r2 r9 x1 1000 y0
def bM_init_64 (K : Int32 → Int32 → Int32 → Int32 → Int32 → Int32 → Int32 → Int32 → Int32 → Int32 → Int32 → Int32 → Int32 → Int32 → Int32 → (Nat → Int32) → (Nat → Int32) → (Nat → Int32) → (Nat → Int32) → Int32 → SM) (g3 g4 g5 g6 g7 g8 g10 g11 g12 g13 g14 g15 g16 g17 g18 : Int32) (r0 r1 r2 r9 : Nat → Int32) (x1 : Int32) (y0 : Int32) : SM := if x1 = 2 then bM_init_69 K g3 g4 g5 g6 g7 g8 g10 g11 g12 g13 g14 g15 g16 g17 g18 r0 r1 r2 r9 x1 y0 else bM_init_75 K g3 g4 g5 g6 g7 g8 g10 g11 g12 g13 g14 g15 g16 g17 g18 r0 r1 r2 r9 x1 y0
def bM_init_58 (K : Int32 → Int32 → Int32 → Int32 → Int32 → Int32 → Int32 → Int32 → Int32 → Int32 → Int32 → Int32 → Int32 → Int32 → Int32 → (Nat → Int32) → (Nat → Int32) → (Nat → Int32) → (Nat → Int32) → Int32 → SM) (g3 g4 g5 g6 g7 g8 g10 g11 g12 g13 g14 g15 g16 g17 g18 : Int32) (r0 r1 r2 r9 : Nat → Int32) (x1 : Int32) (y0 : Int32) : SM := bM_init_155 K g3 g4 g5 g6 g7 g8 g10 g11 g12 g13 g14 g15 g16 g17 g18 r0 r1 r2 r9 x1 300 y0
def bM_init_49 (K : Int32 → Int32 → Int32 → Int32 → Int32 → Int32 → Int32 → Int32 → Int32 → Int32 → Int32 → Int32 → Int32 → Int32 → Int32 → (Nat → Int32) → (Nat → Int32) → (Nat → Int32) → (Nat → Int32) → Int32 → SM) (g3 g4 g5 g6 g7 g8 g10 g11 g12 g13 g14 g15 g16 g17 g18 : Int32) (r0 r1 r2 r9 : Nat → Int32) (x1 : Int32) : SM := if x1 = 0 then bM_init_58 K g3 g4 g5 g6 g7 g8 g10 g11 g12 g13 g14 g15 g16 g17 g18 r0 r1 r2 r9 x1 x1 else bM_init_64 K g3 g4 g5 g6 g7 g8 g10 g11 g12 g13 g14 g15 g16 g17 g18 r0 r1 r2 r9 x1 x1
def bM_init_43 : Nat → Int32 → Int32 → Int32 → Int32 → Int32 → Int32 → Int32 → Int32 → Int32 → Int32 → Int32 → Int32 → Int32 → Int32 → Int32 → (Nat → Int32) → (Nat → Int32) → (Nat → Int32) → (Nat → Int32) → Int32 → SM
  | 0 => fun g3 g4 g5 g6 g7 g8 g10 g11 g12 g13 g14 g15 g16 g17 g18 r0 r1 r2 r9 x1 => (g3, g4, g5, g6, g7, g8, g10, g11, g12, g13, g14, g15, g16, g17, g18, r0, r1, r2, r9)
  | n + 1 => fun g3 g4 g5 g6 g7 g8 g10 g11 g12 g13 g14 g15 g16 g17 g18 r0 r1 r2 r9 x1 => if 10 ≤ x1 then bM_init_162 g3 g4 g5 g6 g7 g8 g10 g11 g12 g13 g14 g15 g16 g17 g18 r0 r1 r2 r9 else bM_init_49 (bM_init_43 n) g3 g4 g5 g6 g7 g8 g10 g11 g12 g13 g14 g15 g16 g17 g18 r0 r1 r2 r9 x1
theorem bM_init_43_s (n : Nat) (g3 g4 g5 g6 g7 g8 g10 g11 g12 g13 g14 g15 g16 g17 g18 : Int32) (r0 r1 r2 r9 : Nat → Int32) (x1 : Int32) : bM_init_43 (n + 1) g3 g4 g5 g6 g7 g8 g10 g11 g12 g13 g14 g15 g16 g17 g18 r0 r1 r2 r9 x1 = if 10 ≤ x1 then bM_init_162 g3 g4 g5 g6 g7 g8 g10 g11 g12 g13 g14 g15 g16 g17 g18 r0 r1 r2 r9 else bM_init_49 (bM_init_43 n) g3 g4 g5 g6 g7 g8 g10 g11 g12 g13 g14 g15 g16 g17 g18 r0 r1 r2 r9 x1 := rfl
def bM_init_41 (g3 g4 g5 g6 g7 g8 g10 g11 g12 g13 g14 g15 g16 g17 g18 : Int32) (r0 r1 r2 r9 : Nat → Int32) : SM := bM_init_43 11 g3 g4 g5 g6 g7 g8 g10 g11 g12 g13 g14 g15 g16 g17 g18 r0 r1 r2 r9 0
def sM_init  : SM := bM_init_41 0 0 0 0 ((-1)) 0 0 0 0 0 0 0 0 0 0 ((fun _ => 0)) ((fun _ => 0)) ((fun _ => 0)) ((fun _ => 0))
end
section
theorem i_lt {a b : Int32} : a < b ↔ a.toInt < b.toInt := Int32.lt_iff_toInt_lt
theorem i_le {a b : Int32} : a ≤ b ↔ a.toInt ≤ b.toInt := Int32.le_iff_toInt_le
theorem out_eq (v a b : Int32) : sX_isOutside v a b = if v < a ∨ b < v then 1 else 0 := by
  simp only [bX_isOutside_14, bX_isOutside_10, bX_isOutside_5, bX_isOutside_0, sX_isOutside]
  by_cases h1 : v < a
  · simp [h1]
  · by_cases h2 : v ≤ b
    · have h3 : ¬ b < v := by rw [i_lt]; rw [i_le] at h2; omega
      simp [h1, h2, h3]
    · have h3 : b < v := by rw [i_lt]; rw [i_le] at h2; omega
      simp [h1, h2, h3]
theorem inP {k : Int32} (h : ¬ sX_isParameter k = 0) : vp_in k 10 := by
  rw [vp_in_iff]
  simp only [bX_isParameter_14, bX_isParameter_10, bX_isParameter_4, bX_isParameter_0, sX_isParameter] at h
  by_cases h1 : k < 0
  · simp [h1] at h
  · by_cases h2 : (10 : Int32) ≤ k
    · simp [h1, h2] at h
    · rw [i_lt, show (0 : Int32).toInt = 0 from rfl] at h1
      rw [i_le, show (10 : Int32).toInt = 10 from rfl] at h2
      omega
theorem inS {k : Int32} (h : ¬ sX_isSensor k = 0) : vp_in k 6 := by
  rw [vp_in_iff]
  simp only [bX_isSensor_14, bX_isSensor_10, bX_isSensor_4, bX_isSensor_0, sX_isSensor] at h
  by_cases h1 : k < 0
  · simp [h1] at h
  · by_cases h2 : (6 : Int32) ≤ k
    · simp [h1, h2] at h
    · rw [i_lt, show (0 : Int32).toInt = 0 from rfl] at h1
      rw [i_le, show (6 : Int32).toInt = 6 from rfl] at h2
      omega
theorem in9l {k : Int32} (h1 : ¬ k < 0) (h2 : k ≤ 9) : vp_in k 10 := by
  rw [vp_in_iff]
  rw [i_lt, show (0 : Int32).toInt = 0 from rfl] at h1
  rw [i_le, show (9 : Int32).toInt = 9 from rfl] at h2
  omega
theorem in9g {k : Int32} (h1 : ¬ k < 0) (h2 : ¬ 9 < k) : vp_in k 10 := by
  rw [vp_in_iff]
  rw [i_lt, show (0 : Int32).toInt = 0 from rfl] at h1
  rw [i_lt, show (9 : Int32).toInt = 9 from rfl] at h2
  omega
theorem in5l {k : Int32} (h1 : ¬ k < 0) (h2 : k ≤ 5) : vp_in k 6 := by
  rw [vp_in_iff]
  rw [i_lt, show (0 : Int32).toInt = 0 from rfl] at h1
  rw [i_le, show (5 : Int32).toInt = 5 from rfl] at h2
  omega
theorem in5g {k : Int32} (h1 : ¬ k < 0) (h2 : ¬ 5 < k) : vp_in k 6 := by
  rw [vp_in_iff]
  rw [i_lt, show (0 : Int32).toInt = 0 from rfl] at h1
  rw [i_lt, show (5 : Int32).toInt = 5 from rfl] at h2
  omega
theorem tickN2 {k : Int32} (h1 : ¬ k < 1) (h2 : k ≤ 600) : ∃ N : Nat, N ≤ 600 ∧ k = nI N := by
  refine nI_of2 (M := 600) rfl ?_ h2
  rw [i_lt, show (1 : Int32).toInt = 1 from rfl] at h1
  rw [i_lt, show (0 : Int32).toInt = 0 from rfl]
  omega
theorem tickN {k : Int32} (h : sX_isOutside k 1 600 = 0) : ∃ N : Nat, N ≤ 600 ∧ k = nI N := by
  rw [out_eq] at h
  by_cases h1 : k < 1
  · simp [h1] at h
  · by_cases h2 : (600 : Int32) < k
    · simp [h2] at h
    · refine tickN2 h1 ?_
      rw [i_lt] at h2
      rw [i_le]
      omega
theorem sw_out5 {x : Int32} (h0 : ¬ x = 0) (h1 : ¬ x = 1) (h2 : ¬ x = 2) (h3 : ¬ x = 3) (h4 : ¬ x = 4) (h5 : ¬ x = 5) : x.toInt < 0 ∨ 5 < x.toInt := by
  have e : ∀ (z : Int32) (n : Int), z.toInt = n → ¬ x = z → ¬ x.toInt = n := fun z n hz h q => h (Int32.toInt_inj.mp (by rw [hz]; exact q))
  have e0 := e 0 0 rfl h0
  have e1 := e 1 1 rfl h1
  have e2 := e 2 2 rfl h2
  have e3 := e 3 3 rfl h3
  have e4 := e 4 4 rfl h4
  have e5 := e 5 5 rfl h5
  omega
def hVof (r : Nat → Int32) : Prop := ¬ (600 : Int64) * (r 3).toInt64 = 0
def vM (u : SM) : Nat → Int32 := u.2.2.2.2.2.2.2.2.2.2.2.2.2.2.2.1
theorem vM_cond2 (n : Nat) : ∀ (g3 g4 g5 g6 g7 g8 g10 g11 g12 g13 g14 g15 g16 g17 g18 : Int32) (r0 r1 r2 r9 : Nat → Int32) (x1 : Int32), vM (bM_condition_2 n g3 g4 g5 g6 g7 g8 g10 g11 g12 g13 g14 g15 g16 g17 g18 r0 r1 r2 r9 x1) = r0 := by
  induction n with
  | zero => intros; rfl
  | succ n ih =>
    intros
    rw [bM_condition_2_s]
    split
    · simp only [bM_condition_146, bM_condition_135, bM_condition_128, bM_condition_120, bM_condition_93, bM_condition_86, bM_condition_78, bM_condition_51, bM_condition_44]
      repeat' split
      all_goals rfl
    · simp only [bM_condition_38, bM_condition_16, bM_condition_8]
      repeat' split
      all_goals exact ih ..
theorem hV_cond {g3 g4 g5 g6 g7 g8 g10 g11 g12 g13 g14 g15 g16 g17 g18 : Int32} {r0 r1 r2 r9 : Nat → Int32} {u : SM} {r0' : Nat → Int32} (h : hVof r0) (hu : u = sM_condition g3 g4 g5 g6 g7 g8 g10 g11 g12 g13 g14 g15 g16 g17 g18 r0 r1 r2 r9) (he : vM u = r0' := by rfl) : hVof r0' := by
  rw [← he, hu]
  unfold sM_condition bM_condition_0
  rw [vM_cond2]
  exact h
theorem vM_commands (g3 g4 g5 g6 g7 g8 g10 g11 g12 g13 g14 g15 g16 g17 g18 : Int32) (r0 r1 r2 r9 : Nat → Int32) : vM (sM_commands g3 g4 g5 g6 g7 g8 g10 g11 g12 g13 g14 g15 g16 g17 g18 r0 r1 r2 r9).2 = r0 := by
  simp only [bM_commands_183, bM_commands_181, bM_commands_123, bM_commands_121, bM_commands_115, bM_commands_109, bM_commands_100, bM_commands_99, bM_commands_93, bM_commands_83, bM_commands_72, bM_commands_63, bM_commands_62, bM_commands_56, bM_commands_46, bM_commands_41, bM_commands_40, bM_commands_36, bM_commands_26, bM_commands_21, bM_commands_20, bM_commands_16, bM_commands_8, bM_commands_0, sM_commands]
  repeat' split
  all_goals rfl
theorem vM_guarded (g3 g4 g5 g6 g7 g8 g10 g11 g12 g13 g14 g15 g16 g17 g18 : Int32) (r0 r1 r2 r9 : Nat → Int32) (k1 : Int32) : vM (sM_guarded g3 g4 g5 g6 g7 g8 g10 g11 g12 g13 g14 g15 g16 g17 g18 r0 r1 r2 r9 k1).2 = r0 := by
  simp only [bM_guarded_143, bM_guarded_138, bM_guarded_111, bM_guarded_103, bM_guarded_99, bM_guarded_87, bM_guarded_79, bM_guarded_65, bM_guarded_58, bM_guarded_57, bM_guarded_53, bM_guarded_35, bM_guarded_16, bM_guarded_7, bM_guarded_0, sM_guarded]
  repeat' split
  all_goals rfl
theorem vM_one62 (g3 g4 g5 g6 g7 g8 g10 g11 g12 g13 g14 g15 g16 g17 g18 : Int32) (r0 r1 r2 r9 : Nat → Int32) (x1 y0 : Int32) : vM (bM_one_62 g3 g4 g5 g6 g7 g8 g10 g11 g12 g13 g14 g15 g16 g17 g18 r0 r1 r2 r9 x1 y0).2 = r0 := by
  unfold bM_one_62
  have h := vM_guarded g3 g4 g5 g6 g7 g8 g10 g11 g12 g13 g14 g15 g16 g17 g18 r0 r1 r2 r9 y0
  generalize sM_guarded g3 g4 g5 g6 g7 g8 g10 g11 g12 g13 g14 g15 g16 g17 g18 r0 r1 r2 r9 y0 = q at h
  obtain ⟨z, c3, c4, c5, c6, c7, c8, c10, c11, c12, c13, c14, c15, c16, c17, c18, d0, d1, d2, d9⟩ := q
  have h : d0 = r0 := h
  subst h
  simp only [bM_one_194, bM_one_190, bM_one_182, bM_one_178, bM_one_175q, bM_one_173, bM_one_168, bM_one_167, bM_one_163, bM_one_146, bM_one_138, bM_one_128, bM_one_120, bM_one_111, bM_one_103, bM_one_92, bM_one_88, bM_one_79, bM_one_65, bM_one_62q, bM_one_62, bM_enter_15, bM_enter_0, sM_enter]
  repeat' split
  all_goals rfl
theorem vM_one (g3 g4 g5 g6 g7 g8 g10 g11 g12 g13 g14 g15 g16 g17 g18 : Int32) (r0 r1 r2 r9 : Nat → Int32) : vM (sM_one g3 g4 g5 g6 g7 g8 g10 g11 g12 g13 g14 g15 g16 g17 g18 r0 r1 r2 r9).2 = r0 := by
  unfold sM_one bM_one_0
  have h : vM (sM_condition g3 g4 g5 g6 g7 (g8 + 1) g10 g11 g12 g13 g14 g15 g16 g17 g18 r0 r1 r2 r9) = r0 := by
    unfold sM_condition bM_condition_0
    exact vM_cond2 ..
  generalize sM_condition g3 g4 g5 g6 g7 (g8 + 1) g10 g11 g12 g13 g14 g15 g16 g17 g18 r0 r1 r2 r9 = q at h
  obtain ⟨c3, c4, c5, c6, c7, c8, c10, c11, c12, c13, c14, c15, c16, c17, c18, d0, d1, d2, d9⟩ := q
  have h : d0 = r0 := h
  subst h
  unfold bM_one_16q
  dsimp only
  unfold bM_one_19
  generalize sM_conditionsNow c3 c4 c5 c6 c7 c8 c10 c11 c12 c13 c14 c15 c16 c17 c18 d0 d1 d2 d9 = cn
  have h := vM_commands c3 (c4 ||| cn) cn c6 c7 c8 c10 c11 c12 c13 c14 c15 c16 c17 c18 d0 d1 d2 d9
  generalize sM_commands c3 (c4 ||| cn) cn c6 c7 c8 c10 c11 c12 c13 c14 c15 c16 c17 c18 d0 d1 d2 d9 = q at h
  obtain ⟨z, e3, e4, e5, e6, e7, e8, e10, e11, e12, e13, e14, e15, e16, e17, e18, f0, f1, f2, f9⟩ := q
  have h : f0 = d0 := h
  subst h
  unfold bM_one_41q
  dsimp only
  unfold bM_one_44
  split
  · exact vM_one62 ..
  · exact vM_one62 ..
theorem hV_one {g3 g4 g5 g6 g7 g8 g10 g11 g12 g13 g14 g15 g16 g17 g18 : Int32} {r0 r1 r2 r9 : Nat → Int32} {q : Int32} {u : SM} {r0' : Nat → Int32} (h : hVof r0) (hu : (q, u) = sM_one g3 g4 g5 g6 g7 g8 g10 g11 g12 g13 g14 g15 g16 g17 g18 r0 r1 r2 r9) (he : vM u = r0' := by rfl) : hVof r0' := by
  have h1 := vM_one g3 g4 g5 g6 g7 g8 g10 g11 g12 g13 g14 g15 g16 g17 g18 r0 r1 r2 r9
  rw [← hu] at h1
  rw [← he]
  show hVof (vM (q, u).2)
  rw [h1]
  exact h
end
