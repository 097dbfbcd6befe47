abbrev cX0_steady : ByteArray := prog_1_method_20_code
def yX0_steady : MethodName := ⟨RX0, "steady", "()I"⟩
def wsX0_steady : List Cond := .code yX0_steady cX0_steady 1 (some .int) :: ([.fieldLink RX0 92 "BloodCircuitChannels" "steadyTicks" "I"] ++ wsX00)
theorem dX0_steady_0 : decode cX0_steady 0 = .ok (.aload_n 0, 1) := by decide +kernel
theorem dX0_steady_1 : decode cX0_steady 1 = .ok (.getfield 92, 3) := by decide +kernel
theorem dX0_steady_4 : decode cX0_steady 4 = .ok (.ireturn, 1) := by decide +kernel
