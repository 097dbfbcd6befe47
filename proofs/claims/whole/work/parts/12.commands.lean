def rn (g : Int32) : Int32 := if g < 1 then 0 else if 4 < g then 0 else 1
def tP (g a : Int32) : Int32 := if rn g = 0 then 0 else if a &&& 47 = 0 then 1 else 0
def tC (g a : Int32) : Int32 := if rn g = 0 then 0 else if a &&& 38 = 0 then 1 else 0
def tBX (g a f : Int32) : Int32 := if g = 3 then (if 0 < f then 1 else if a &&& 8 = 0 then 0 else 1) else 1
def c3 (x2 x3 x4 : Int32) : Int32 := ((if x2 = 0 then 0 else 1) ||| (if x3 = 0 then 0 else 2)) ||| (if x4 = 0 then 0 else 4)
theorem cc139 (g4 g5 g6 g7 g8 g9 g10 g11 g12 g13 g14 g15 g16 g17 : Int32) (r0 r1 r2 r3 : Nat → Int32) (x2 x3 x4 x5 : Int32) : bX_commandsOfControl_139 g4 g5 g6 g7 g8 g9 g10 g11 g12 g13 g14 g15 g16 g17 r0 r1 r2 r3 x2 x3 x4 x5 = (c3 x2 x3 x4 ||| (if x5 = 0 then 0 else 8), (g4, g5, g6, g7, g8, g9, g10, g11, g12, g13, g14, g15, g16, g17, r0, r1, r2, r3)) := by
  simp only [bX_commandsOfControl_180, bX_commandsOfControl_179, bX_commandsOfControl_174, bX_commandsOfControl_168, bX_commandsOfControl_167, bX_commandsOfControl_163, bX_commandsOfControl_157, bX_commandsOfControl_156, bX_commandsOfControl_152, bX_commandsOfControl_148, bX_commandsOfControl_147, bX_commandsOfControl_143, bX_commandsOfControl_139, c3]
  by_cases h2 : x2 = 0 <;> by_cases h3 : x3 = 0 <;> by_cases h4 : x4 = 0 <;> by_cases h5 : x5 = 0 <;> simp only [h2, h3, h4, h5, if_true, if_false]
theorem ccX_eq (g4 g5 g6 g7 g8 g9 g10 g11 g12 g13 g14 g15 g16 g17 : Int32) (r0 r1 r2 r3 : Nat → Int32) : sX_commandsOfControl g4 g5 g6 g7 g8 g9 g10 g11 g12 g13 g14 g15 g16 g17 r0 r1 r2 r3 = if tP g4 g5 = 0 ∨ ¬ tBX g4 g5 g15 = 0 then (c3 (tP g4 g5) (tC g4 g5) (tBX g4 g5 g15), (g4, g5, g6, g7, g8, g9, g10, g11, g12, g13, g14, g15, g16, g17, r0, r1, r2, r3)) else if sX_isStrokeWanted g4 g5 g6 g7 g8 (g9 + 1) g10 g11 g12 g13 g14 g15 g16 g17 r0 r1 r2 r3 = 0 then (c3 (tP g4 g5) (tC g4 g5) (tBX g4 g5 g15), (g4, g5, g6, g7, g8, g9 + 1, g10, g11, g12, g13, g14, g15, g16, g17, r0, r1, r2, r3)) else (c3 (tP g4 g5) (tC g4 g5) (tBX g4 g5 g15) ||| 8, (g4, g5, g6, g7, g8, g9 + 1, g10 + 500, g11, g12, g13, g14, g15, g16, g17, r0, r1, r2, r3)) := by
  unfold sX_commandsOfControl
  have h1 : bX_commandsOfControl_0 g4 g5 g6 g7 g8 g9 g10 g11 g12 g13 g14 g15 g16 g17 r0 r1 r2 r3 = bX_commandsOfControl_21 g4 g5 g6 g7 g8 g9 g10 g11 g12 g13 g14 g15 g16 g17 r0 r1 r2 r3 (rn g4) := by
    unfold bX_commandsOfControl_0 rn
    split
    · rfl
    · unfold bX_commandsOfControl_8
      split <;> rfl
  have h2 : bX_commandsOfControl_21 g4 g5 g6 g7 g8 g9 g10 g11 g12 g13 g14 g15 g16 g17 r0 r1 r2 r3 (rn g4) = bX_commandsOfControl_41 g4 g5 g6 g7 g8 g9 g10 g11 g12 g13 g14 g15 g16 g17 r0 r1 r2 r3 (rn g4) (tP g4 g5) := by
    unfold bX_commandsOfControl_21 tP
    split
    · rfl
    · unfold bX_commandsOfControl_26
      split <;> rfl
  have h3 : ∀ y, bX_commandsOfControl_41 g4 g5 g6 g7 g8 g9 g10 g11 g12 g13 g14 g15 g16 g17 r0 r1 r2 r3 (rn g4) y = bX_commandsOfControl_61 g4 g5 g6 g7 g8 g9 g10 g11 g12 g13 g14 g15 g16 g17 r0 r1 r2 r3 y (tC g4 g5) := by
    intro y
    unfold bX_commandsOfControl_41 tC
    split
    · rfl
    · unfold bX_commandsOfControl_46
      split <;> rfl
  have h4 : ∀ y z, bX_commandsOfControl_61 g4 g5 g6 g7 g8 g9 g10 g11 g12 g13 g14 g15 g16 g17 r0 r1 r2 r3 y z = bX_commandsOfControl_92 g4 g5 g6 g7 g8 g9 g10 g11 g12 g13 g14 g15 g16 g17 r0 r1 r2 r3 y z (tBX g4 g5 g15) := by
    intro y z
    unfold bX_commandsOfControl_61 tBX
    split
    · unfold bX_commandsOfControl_70
      split
      · rfl
      · unfold bX_commandsOfControl_77
        split <;> rfl
    · rfl
  have z0 : ∀ a : Int32, a ||| 0 = a := fun a => by simp
  rw [h1, h2, h3, h4]
  generalize tP g4 g5 = x2
  generalize tC g4 g5 = x3
  generalize tBX g4 g5 g15 = x4
  unfold bX_commandsOfControl_92 bX_commandsOfControl_101 bX_commandsOfControl_106 bX_commandsOfControl_122 bX_commandsOfControl_127
  simp only [cc139]
  by_cases p2 : x2 = 0
  · simp only [p2, if_true, true_or, z0]
  · by_cases p4 : x4 = 0
    · simp only [p2, p4, if_true, if_false, not_true, or_self, false_or]
      by_cases p5 : sX_isStrokeWanted g4 g5 g6 g7 g8 (g9 + 1) g10 g11 g12 g13 g14 g15 g16 g17 r0 r1 r2 r3 = 0
      · simp only [p5, if_true, z0]
      · simp only [p5, if_false]
    · simp only [p2, p4, if_true, if_false, not_false_eq_true, or_true, z0]
def tPM (g a : Int32) : Int32 := if rn g = 0 then 0 else if a &&& (-17) = 0 then 1 else 0
def tCM (g a : Int32) : Int32 := if rn g = 0 then 0 else if a &&& 38 = 0 then 2 else 0
def tBM (g a f n : Int32) : Int32 := if g = 3 then (if f = n then 4 else if a &&& 8 = 0 then 0 else 4) else 4
theorem ccM_eq (g3 g4 g5 g6 g7 g8 g10 g11 g12 g13 g14 g15 g16 g17 g18 : Int32) (r0 r1 r2 r9 : Nat → Int32) : sM_commands g3 g4 g5 g6 g7 g8 g10 g11 g12 g13 g14 g15 g16 g17 g18 r0 r1 r2 r9 = bM_commands_100 g3 g4 g5 g6 g7 g8 g10 g11 g12 g13 g14 g15 g16 g17 g18 r0 r1 r2 r9 (tPM g3 g4 + tCM g3 g4 + tBM g3 g4 g13 g8) := by
  unfold sM_commands
  have z0 : ∀ a : Int32, a + 0 = a := fun a => by grind
  have h1 : bM_commands_0 g3 g4 g5 g6 g7 g8 g10 g11 g12 g13 g14 g15 g16 g17 g18 r0 r1 r2 r9 = bM_commands_21 g3 g4 g5 g6 g7 g8 g10 g11 g12 g13 g14 g15 g16 g17 g18 r0 r1 r2 r9 (rn g3) := by
    unfold bM_commands_0 rn
    split
    · rfl
    · unfold bM_commands_8
      split <;> rfl
  have h2 : bM_commands_21 g3 g4 g5 g6 g7 g8 g10 g11 g12 g13 g14 g15 g16 g17 g18 r0 r1 r2 r9 (rn g3) = bM_commands_41 g3 g4 g5 g6 g7 g8 g10 g11 g12 g13 g14 g15 g16 g17 g18 r0 r1 r2 r9 (rn g3) (tPM g3 g4) := by
    unfold bM_commands_21 tPM
    split
    · rfl
    · unfold bM_commands_26
      split <;> rfl
  have h3 : ∀ y, bM_commands_41 g3 g4 g5 g6 g7 g8 g10 g11 g12 g13 g14 g15 g16 g17 g18 r0 r1 r2 r9 (rn g3) y = bM_commands_63 g3 g4 g5 g6 g7 g8 g10 g11 g12 g13 g14 g15 g16 g17 g18 r0 r1 r2 r9 (y + tCM g3 g4) := by
    intro y
    unfold bM_commands_41 tCM
    split
    · rw [z0]
      rfl
    · unfold bM_commands_46
      split
      · rfl
      · rw [z0]
        rfl
  have h4 : ∀ y, bM_commands_63 g3 g4 g5 g6 g7 g8 g10 g11 g12 g13 g14 g15 g16 g17 g18 r0 r1 r2 r9 y = bM_commands_100 g3 g4 g5 g6 g7 g8 g10 g11 g12 g13 g14 g15 g16 g17 g18 r0 r1 r2 r9 (y + tBM g3 g4 g13 g8) := by
    intro y
    unfold bM_commands_63 tBM
    split
    · unfold bM_commands_72
      split
      · rfl
      · unfold bM_commands_83
        split
        · rw [z0]
          rfl
        · rfl
    · rfl
  rw [h1, h2, h3, h4]
theorem sw_eq (g4 g5 g6 g7 g8 g9 g10 g11 g12 g13 g14 g15 g16 g17 : Int32) (r0 r1 r2 r3 : Nat → Int32) (m14 m15 : Int32) {V E C M : Nat} (h1 : r0 1 = nI V) (h3 : r0 3 = nI M) (he : g9 = nI E) (hc : g10 = 500 * m15) (hm : m15 = nI C) (hV : V ≤ 6000) (hE : E ≤ 400000) (hC : C ≤ 400000) (hM0 : 1 ≤ M) (hM : M ≤ 600) : sX_isStrokeWanted g4 g5 g6 g7 g8 g9 g10 g11 g12 g13 g14 g15 g16 g17 r0 r1 r2 r3 = if 0 ≤ lg_cmp (((r0 1).toInt64 * 1000 * (g9).toInt64) / (600 * (r0 3).toInt64)) (500 * m15.toInt64 + 500) then 1 else 0 := by
  subst he hm
  have e10 : g10 + 500 = nI (500 * C + 500) := by
    rw [hc, show (500 : Int32) = nI 500 from rfl, pk_mul, nI_add]
  have eT : sX_ticksOfTreatment g4 g5 g6 g7 g8 (nI E) g10 g11 g12 g13 g14 g15 g16 g17 r0 r1 r2 r3 = nI (600 * M) := by
    show (600 : Int32) * r0 3 = _
    rw [h3, show (600 : Int32) = nI 600 from rfl, pk_mul]
  show (if lg_cmp ((r0 1).toInt64 * 1000 * (nI E).toInt64) ((g10 + 500).toInt64 * (sX_ticksOfTreatment g4 g5 g6 g7 g8 (nI E) g10 g11 g12 g13 g14 g15 g16 g17 r0 r1 r2 r3).toInt64) < 0 then (0 : Int32) else 1) = _
  rw [e10, eT, h1, h3, nI_l (by omega), nI_l (by omega), nI_l (by omega), nI_l (by omega), nI_l (by omega), nI_l (by omega)]
  rw [show (1000 : Int64) = lN 1000 from rfl, show (600 : Int64) = lN 600 from rfl, show (500 : Int64) = lN 500 from rfl]
  simp only [lN_mul, lN_add]
  have b1 : V * 1000 * E ≤ 6000 * 1000 * 400000 := Nat.mul_le_mul (Nat.mul_le_mul_right _ hV) hE
  have b2 : (500 * C + 500) * (600 * M) ≤ (500 * 400000 + 500) * (600 * 600) := Nat.mul_le_mul (by omega) (by omega)
  rw [pk_lDiv (by omega) (by omega) (by omega)]
  have q := Nat.div_le_self (V * 1000 * E) (600 * M)
  have k1 : (0 ≤ lg_cmp (lN (V * 1000 * E / (600 * M))) (lN (500 * C + 500))) ↔ (500 * C + 500) * (600 * M) ≤ V * 1000 * E := by
    rw [lg_cmp_ge, pk_lLE (by omega) (by omega)]
    exact Nat.le_div_iff_mul_le (by omega)
  have k2 : (lg_cmp (lN (V * 1000 * E)) (lN ((500 * C + 500) * (600 * M))) < 0) ↔ ¬ (500 * C + 500) * (600 * M) ≤ V * 1000 * E := by
    rw [← pk_lLE (by omega) (by omega), ← lg_cmp_ge]
    rw [i_lt, i_le]
    omega
  by_cases h : (500 * C + 500) * (600 * M) ≤ V * 1000 * E
  · rw [if_pos (k1.mpr h), if_neg (fun z => k2.mp z h)]
  · rw [if_neg (fun z => h (k1.mp z)), if_pos (k2.mpr h)]
