theorem i_lt {a b : Int32} : a < b ↔ a.toInt < b.toInt := Int32.lt_iff_toInt_lt
theorem i_le {a b : Int32} : a ≤ b ↔ a.toInt ≤ b.toInt := Int32.le_iff_toInt_le
theorem out_eq (v a b : Int32) : sX_isOutside v a b = if v < a ∨ b < v then 1 else 0 := by
  simp only [bX_isOutside_14, bX_isOutside_10, bX_isOutside_5, bX_isOutside_0, sX_isOutside]
  by_cases h1 : v < a
  · simp [h1]
  · by_cases h2 : v ≤ b
    · have h3 : ¬ b < v := by rw [i_lt]; rw [i_le] at h2; omega
      simp [h1, h2, h3]
    · have h3 : b < v := by rw [i_lt]; rw [i_le] at h2; omega
      simp [h1, h2, h3]
theorem inP {k : Int32} (h : ¬ sX_isParameter k = 0) : vp_in k 10 := by
  rw [vp_in_iff]
  simp only [bX_isParameter_14, bX_isParameter_10, bX_isParameter_4, bX_isParameter_0, sX_isParameter] at h
  by_cases h1 : k < 0
  · simp [h1] at h
  · by_cases h2 : (10 : Int32) ≤ k
    · simp [h1, h2] at h
    · rw [i_lt, show (0 : Int32).toInt = 0 from rfl] at h1
      rw [i_le, show (10 : Int32).toInt = 10 from rfl] at h2
      omega
theorem inS {k : Int32} (h : ¬ sX_isSensor k = 0) : vp_in k 6 := by
  rw [vp_in_iff]
  simp only [bX_isSensor_14, bX_isSensor_10, bX_isSensor_4, bX_isSensor_0, sX_isSensor] at h
  by_cases h1 : k < 0
  · simp [h1] at h
  · by_cases h2 : (6 : Int32) ≤ k
    · simp [h1, h2] at h
    · rw [i_lt, show (0 : Int32).toInt = 0 from rfl] at h1
      rw [i_le, show (6 : Int32).toInt = 6 from rfl] at h2
      omega
theorem in9l {k : Int32} (h1 : ¬ k < 0) (h2 : k ≤ 9) : vp_in k 10 := by
  rw [vp_in_iff]
  rw [i_lt, show (0 : Int32).toInt = 0 from rfl] at h1
  rw [i_le, show (9 : Int32).toInt = 9 from rfl] at h2
  omega
theorem in9g {k : Int32} (h1 : ¬ k < 0) (h2 : ¬ 9 < k) : vp_in k 10 := by
  rw [vp_in_iff]
  rw [i_lt, show (0 : Int32).toInt = 0 from rfl] at h1
  rw [i_lt, show (9 : Int32).toInt = 9 from rfl] at h2
  omega
theorem in5l {k : Int32} (h1 : ¬ k < 0) (h2 : k ≤ 5) : vp_in k 6 := by
  rw [vp_in_iff]
  rw [i_lt, show (0 : Int32).toInt = 0 from rfl] at h1
  rw [i_le, show (5 : Int32).toInt = 5 from rfl] at h2
  omega
theorem in5g {k : Int32} (h1 : ¬ k < 0) (h2 : ¬ 5 < k) : vp_in k 6 := by
  rw [vp_in_iff]
  rw [i_lt, show (0 : Int32).toInt = 0 from rfl] at h1
  rw [i_lt, show (5 : Int32).toInt = 5 from rfl] at h2
  omega
theorem tickN2 {k : Int32} (h1 : ¬ k < 1) (h2 : k ≤ 600) : ∃ N : Nat, N ≤ 600 ∧ k = nI N := by
  refine nI_of2 (M := 600) rfl ?_ h2
  rw [i_lt, show (1 : Int32).toInt = 1 from rfl] at h1
  rw [i_lt, show (0 : Int32).toInt = 0 from rfl]
  omega
theorem tickN {k : Int32} (h : sX_isOutside k 1 600 = 0) : ∃ N : Nat, N ≤ 600 ∧ k = nI N := by
  rw [out_eq] at h
  by_cases h1 : k < 1
  · simp [h1] at h
  · by_cases h2 : (600 : Int32) < k
    · simp [h2] at h
    · refine tickN2 h1 ?_
      rw [i_lt] at h2
      rw [i_le]
      omega
theorem sw_out5 {x : Int32} (h0 : ¬ x = 0) (h1 : ¬ x = 1) (h2 : ¬ x = 2) (h3 : ¬ x = 3) (h4 : ¬ x = 4) (h5 : ¬ x = 5) : x.toInt < 0 ∨ 5 < x.toInt := by
  have e : ∀ (z : Int32) (n : Int), z.toInt = n → ¬ x = z → ¬ x.toInt = n := fun z n hz h q => h (Int32.toInt_inj.mp (by rw [hz]; exact q))
  have e0 := e 0 0 rfl h0
  have e1 := e 1 1 rfl h1
  have e2 := e 2 2 rfl h2
  have e3 := e 3 3 rfl h3
  have e4 := e 4 4 rfl h4
  have e5 := e 5 5 rfl h5
  omega
def hVof (r : Nat → Int32) : Prop := ¬ (600 : Int64) * (r 3).toInt64 = 0
def vM (u : SM) : Nat → Int32 := u.2.2.2.2.2.2.2.2.2.2.2.2.2.2.2.1
theorem vM_cond2 (n : Nat) : ∀ (g3 g4 g5 g6 g7 g8 g10 g11 g12 g13 g14 g15 g16 g17 g18 : Int32) (r0 r1 r2 r9 : Nat → Int32) (x1 : Int32), vM (bM_condition_2 n g3 g4 g5 g6 g7 g8 g10 g11 g12 g13 g14 g15 g16 g17 g18 r0 r1 r2 r9 x1) = r0 := by
  induction n with
  | zero => intros; rfl
  | succ n ih =>
    intros
    rw [bM_condition_2_s]
    split
    · simp only [bM_condition_146, bM_condition_135, bM_condition_128, bM_condition_120, bM_condition_93, bM_condition_86, bM_condition_78, bM_condition_51, bM_condition_44]
      repeat' split
      all_goals rfl
    · simp only [bM_condition_38, bM_condition_16, bM_condition_8]
      repeat' split
      all_goals exact ih ..
theorem hV_cond {g3 g4 g5 g6 g7 g8 g10 g11 g12 g13 g14 g15 g16 g17 g18 : Int32} {r0 r1 r2 r9 : Nat → Int32} {u : SM} {r0' : Nat → Int32} (h : hVof r0) (hu : u = sM_condition g3 g4 g5 g6 g7 g8 g10 g11 g12 g13 g14 g15 g16 g17 g18 r0 r1 r2 r9) (he : vM u = r0' := by rfl) : hVof r0' := by
  rw [← he, hu]
  unfold sM_condition bM_condition_0
  rw [vM_cond2]
  exact h
theorem vM_condition (g3 g4 g5 g6 g7 g8 g10 g11 g12 g13 g14 g15 g16 g17 g18 : Int32) (r0 r1 r2 r9 : Nat → Int32) : vM (sM_condition g3 g4 g5 g6 g7 g8 g10 g11 g12 g13 g14 g15 g16 g17 g18 r0 r1 r2 r9) = r0 := by
  unfold sM_condition bM_condition_0
  exact vM_cond2 ..
theorem v_bM_enter_15 (g3 g4 g5 g6 g7 g8 g10 g11 g12 g13 g14 g15 g16 g17 g18 : Int32) (r0 r1 r2 r9 : Nat → Int32) : vM (bM_enter_15 g3 g4 g5 g6 g7 g8 g10 g11 g12 g13 g14 g15 g16 g17 g18 r0 r1 r2 r9) = r0 := by
  unfold bM_enter_15
  rfl
theorem v_bM_enter_0 (g3 g4 g5 g6 g7 g8 g10 g11 g12 g13 g14 g15 g16 g17 g18 : Int32) (r0 r1 r2 r9 : Nat → Int32) (x1 : Int32) : vM (bM_enter_0 g3 g4 g5 g6 g7 g8 g10 g11 g12 g13 g14 g15 g16 g17 g18 r0 r1 r2 r9 x1) = r0 := by
  unfold bM_enter_0
  split
  · exact v_bM_enter_15 ..
  · rfl
theorem v_sM_enter (g3 g4 g5 g6 g7 g8 g10 g11 g12 g13 g14 g15 g16 g17 g18 : Int32) (r0 r1 r2 r9 : Nat → Int32) (k1 : Int32) : vM (sM_enter g3 g4 g5 g6 g7 g8 g10 g11 g12 g13 g14 g15 g16 g17 g18 r0 r1 r2 r9 k1) = r0 := by
  unfold sM_enter
  exact v_bM_enter_0 ..
theorem v_bM_commands_183 (g3 g4 g5 g6 g7 g8 g10 g11 g12 g13 g14 g15 g16 g17 g18 : Int32) (r0 r1 r2 r9 : Nat → Int32) (x2 : Int32) : vM (bM_commands_183 g3 g4 g5 g6 g7 g8 g10 g11 g12 g13 g14 g15 g16 g17 g18 r0 r1 r2 r9 x2).2 = r0 := by
  unfold bM_commands_183
  rfl
theorem v_bM_commands_181 (g3 g4 g5 g6 g7 g8 g10 g11 g12 g13 g14 g15 g16 g17 g18 : Int32) (r0 r1 r2 r9 : Nat → Int32) (x2 : Int32) : vM (bM_commands_181 g3 g4 g5 g6 g7 g8 g10 g11 g12 g13 g14 g15 g16 g17 g18 r0 r1 r2 r9 x2).2 = r0 := by
  unfold bM_commands_181
  rfl
theorem v_bM_commands_123 (g3 g4 g5 g6 g7 g8 g10 g11 g12 g13 g14 g15 g16 g17 g18 : Int32) (r0 r1 r2 r9 : Nat → Int32) (x2 : Int32) : vM (bM_commands_123 g3 g4 g5 g6 g7 g8 g10 g11 g12 g13 g14 g15 g16 g17 g18 r0 r1 r2 r9 x2).2 = r0 := by
  unfold bM_commands_123
  split
  · exact v_bM_commands_183 ..
  · exact v_bM_commands_181 ..
theorem v_bM_commands_121 (g3 g4 g5 g6 g7 g8 g10 g11 g12 g13 g14 g15 g16 g17 g18 : Int32) (r0 r1 r2 r9 : Nat → Int32) (x2 : Int32) : vM (bM_commands_121 g3 g4 g5 g6 g7 g8 g10 g11 g12 g13 g14 g15 g16 g17 g18 r0 r1 r2 r9 x2).2 = r0 := by
  unfold bM_commands_121
  rfl
theorem v_bM_commands_115 (g3 g4 g5 g6 g7 g8 g10 g11 g12 g13 g14 g15 g16 g17 g18 : Int32) (r0 r1 r2 r9 : Nat → Int32) (x2 : Int32) : vM (bM_commands_115 g3 g4 g5 g6 g7 g8 g10 g11 g12 g13 g14 g15 g16 g17 g18 r0 r1 r2 r9 x2).2 = r0 := by
  unfold bM_commands_115
  split
  · exact v_bM_commands_123 ..
  · exact v_bM_commands_121 ..
theorem v_bM_commands_109 (g3 g4 g5 g6 g7 g8 g10 g11 g12 g13 g14 g15 g16 g17 g18 : Int32) (r0 r1 r2 r9 : Nat → Int32) (x2 : Int32) : vM (bM_commands_109 g3 g4 g5 g6 g7 g8 g10 g11 g12 g13 g14 g15 g16 g17 g18 r0 r1 r2 r9 x2).2 = r0 := by
  unfold bM_commands_109
  split
  · exact v_bM_commands_121 ..
  · exact v_bM_commands_115 ..
theorem v_bM_commands_100 (g3 g4 g5 g6 g7 g8 g10 g11 g12 g13 g14 g15 g16 g17 g18 : Int32) (r0 r1 r2 r9 : Nat → Int32) (y0 : Int32) : vM (bM_commands_100 g3 g4 g5 g6 g7 g8 g10 g11 g12 g13 g14 g15 g16 g17 g18 r0 r1 r2 r9 y0).2 = r0 := by
  unfold bM_commands_100
  split
  · exact v_bM_commands_109 ..
  · exact v_bM_commands_121 ..
theorem v_bM_commands_99 (g3 g4 g5 g6 g7 g8 g10 g11 g12 g13 g14 g15 g16 g17 g18 : Int32) (r0 r1 r2 r9 : Nat → Int32) (x2 : Int32) : vM (bM_commands_99 g3 g4 g5 g6 g7 g8 g10 g11 g12 g13 g14 g15 g16 g17 g18 r0 r1 r2 r9 x2).2 = r0 := by
  unfold bM_commands_99
  exact v_bM_commands_100 ..
theorem v_bM_commands_93 (g3 g4 g5 g6 g7 g8 g10 g11 g12 g13 g14 g15 g16 g17 g18 : Int32) (r0 r1 r2 r9 : Nat → Int32) (x2 : Int32) : vM (bM_commands_93 g3 g4 g5 g6 g7 g8 g10 g11 g12 g13 g14 g15 g16 g17 g18 r0 r1 r2 r9 x2).2 = r0 := by
  unfold bM_commands_93
  exact v_bM_commands_100 ..
theorem v_bM_commands_83 (g3 g4 g5 g6 g7 g8 g10 g11 g12 g13 g14 g15 g16 g17 g18 : Int32) (r0 r1 r2 r9 : Nat → Int32) (x2 : Int32) : vM (bM_commands_83 g3 g4 g5 g6 g7 g8 g10 g11 g12 g13 g14 g15 g16 g17 g18 r0 r1 r2 r9 x2).2 = r0 := by
  unfold bM_commands_83
  split
  · exact v_bM_commands_99 ..
  · exact v_bM_commands_93 ..
theorem v_bM_commands_72 (g3 g4 g5 g6 g7 g8 g10 g11 g12 g13 g14 g15 g16 g17 g18 : Int32) (r0 r1 r2 r9 : Nat → Int32) (x2 : Int32) : vM (bM_commands_72 g3 g4 g5 g6 g7 g8 g10 g11 g12 g13 g14 g15 g16 g17 g18 r0 r1 r2 r9 x2).2 = r0 := by
  unfold bM_commands_72
  split
  · exact v_bM_commands_93 ..
  · exact v_bM_commands_83 ..
theorem v_bM_commands_63 (g3 g4 g5 g6 g7 g8 g10 g11 g12 g13 g14 g15 g16 g17 g18 : Int32) (r0 r1 r2 r9 : Nat → Int32) (y0 : Int32) : vM (bM_commands_63 g3 g4 g5 g6 g7 g8 g10 g11 g12 g13 g14 g15 g16 g17 g18 r0 r1 r2 r9 y0).2 = r0 := by
  unfold bM_commands_63
  split
  · exact v_bM_commands_72 ..
  · exact v_bM_commands_93 ..
theorem v_bM_commands_62 (g3 g4 g5 g6 g7 g8 g10 g11 g12 g13 g14 g15 g16 g17 g18 : Int32) (r0 r1 r2 r9 : Nat → Int32) (x2 : Int32) : vM (bM_commands_62 g3 g4 g5 g6 g7 g8 g10 g11 g12 g13 g14 g15 g16 g17 g18 r0 r1 r2 r9 x2).2 = r0 := by
  unfold bM_commands_62
  exact v_bM_commands_63 ..
theorem v_bM_commands_56 (g3 g4 g5 g6 g7 g8 g10 g11 g12 g13 g14 g15 g16 g17 g18 : Int32) (r0 r1 r2 r9 : Nat → Int32) (x2 : Int32) : vM (bM_commands_56 g3 g4 g5 g6 g7 g8 g10 g11 g12 g13 g14 g15 g16 g17 g18 r0 r1 r2 r9 x2).2 = r0 := by
  unfold bM_commands_56
  exact v_bM_commands_63 ..
theorem v_bM_commands_46 (g3 g4 g5 g6 g7 g8 g10 g11 g12 g13 g14 g15 g16 g17 g18 : Int32) (r0 r1 r2 r9 : Nat → Int32) (x2 : Int32) : vM (bM_commands_46 g3 g4 g5 g6 g7 g8 g10 g11 g12 g13 g14 g15 g16 g17 g18 r0 r1 r2 r9 x2).2 = r0 := by
  unfold bM_commands_46
  split
  · exact v_bM_commands_56 ..
  · exact v_bM_commands_62 ..
theorem v_bM_commands_41 (g3 g4 g5 g6 g7 g8 g10 g11 g12 g13 g14 g15 g16 g17 g18 : Int32) (r0 r1 r2 r9 : Nat → Int32) (x1 : Int32) (y0 : Int32) : vM (bM_commands_41 g3 g4 g5 g6 g7 g8 g10 g11 g12 g13 g14 g15 g16 g17 g18 r0 r1 r2 r9 x1 y0).2 = r0 := by
  unfold bM_commands_41
  split
  · exact v_bM_commands_62 ..
  · exact v_bM_commands_46 ..
theorem v_bM_commands_40 (g3 g4 g5 g6 g7 g8 g10 g11 g12 g13 g14 g15 g16 g17 g18 : Int32) (r0 r1 r2 r9 : Nat → Int32) (x1 : Int32) : vM (bM_commands_40 g3 g4 g5 g6 g7 g8 g10 g11 g12 g13 g14 g15 g16 g17 g18 r0 r1 r2 r9 x1).2 = r0 := by
  unfold bM_commands_40
  exact v_bM_commands_41 ..
theorem v_bM_commands_36 (g3 g4 g5 g6 g7 g8 g10 g11 g12 g13 g14 g15 g16 g17 g18 : Int32) (r0 r1 r2 r9 : Nat → Int32) (x1 : Int32) : vM (bM_commands_36 g3 g4 g5 g6 g7 g8 g10 g11 g12 g13 g14 g15 g16 g17 g18 r0 r1 r2 r9 x1).2 = r0 := by
  unfold bM_commands_36
  exact v_bM_commands_41 ..
theorem v_bM_commands_26 (g3 g4 g5 g6 g7 g8 g10 g11 g12 g13 g14 g15 g16 g17 g18 : Int32) (r0 r1 r2 r9 : Nat → Int32) (x1 : Int32) : vM (bM_commands_26 g3 g4 g5 g6 g7 g8 g10 g11 g12 g13 g14 g15 g16 g17 g18 r0 r1 r2 r9 x1).2 = r0 := by
  unfold bM_commands_26
  split
  · exact v_bM_commands_36 ..
  · exact v_bM_commands_40 ..
theorem v_bM_commands_21 (g3 g4 g5 g6 g7 g8 g10 g11 g12 g13 g14 g15 g16 g17 g18 : Int32) (r0 r1 r2 r9 : Nat → Int32) (y0 : Int32) : vM (bM_commands_21 g3 g4 g5 g6 g7 g8 g10 g11 g12 g13 g14 g15 g16 g17 g18 r0 r1 r2 r9 y0).2 = r0 := by
  unfold bM_commands_21
  split
  · exact v_bM_commands_40 ..
  · exact v_bM_commands_26 ..
theorem v_bM_commands_20 (g3 g4 g5 g6 g7 g8 g10 g11 g12 g13 g14 g15 g16 g17 g18 : Int32) (r0 r1 r2 r9 : Nat → Int32) : vM (bM_commands_20 g3 g4 g5 g6 g7 g8 g10 g11 g12 g13 g14 g15 g16 g17 g18 r0 r1 r2 r9).2 = r0 := by
  unfold bM_commands_20
  exact v_bM_commands_21 ..
theorem v_bM_commands_16 (g3 g4 g5 g6 g7 g8 g10 g11 g12 g13 g14 g15 g16 g17 g18 : Int32) (r0 r1 r2 r9 : Nat → Int32) : vM (bM_commands_16 g3 g4 g5 g6 g7 g8 g10 g11 g12 g13 g14 g15 g16 g17 g18 r0 r1 r2 r9).2 = r0 := by
  unfold bM_commands_16
  exact v_bM_commands_21 ..
theorem v_bM_commands_8 (g3 g4 g5 g6 g7 g8 g10 g11 g12 g13 g14 g15 g16 g17 g18 : Int32) (r0 r1 r2 r9 : Nat → Int32) : vM (bM_commands_8 g3 g4 g5 g6 g7 g8 g10 g11 g12 g13 g14 g15 g16 g17 g18 r0 r1 r2 r9).2 = r0 := by
  unfold bM_commands_8
  split
  · exact v_bM_commands_20 ..
  · exact v_bM_commands_16 ..
theorem v_bM_commands_0 (g3 g4 g5 g6 g7 g8 g10 g11 g12 g13 g14 g15 g16 g17 g18 : Int32) (r0 r1 r2 r9 : Nat → Int32) : vM (bM_commands_0 g3 g4 g5 g6 g7 g8 g10 g11 g12 g13 g14 g15 g16 g17 g18 r0 r1 r2 r9).2 = r0 := by
  unfold bM_commands_0
  split
  · exact v_bM_commands_20 ..
  · exact v_bM_commands_8 ..
theorem v_sM_commands (g3 g4 g5 g6 g7 g8 g10 g11 g12 g13 g14 g15 g16 g17 g18 : Int32) (r0 r1 r2 r9 : Nat → Int32) : vM (sM_commands g3 g4 g5 g6 g7 g8 g10 g11 g12 g13 g14 g15 g16 g17 g18 r0 r1 r2 r9).2 = r0 := by
  unfold sM_commands
  exact v_bM_commands_0 ..
theorem v_bM_guarded_143 (g3 g4 g5 g6 g7 g8 g10 g11 g12 g13 g14 g15 g16 g17 g18 : Int32) (r0 r1 r2 r9 : Nat → Int32) (x3 : Int32) : vM (bM_guarded_143 g3 g4 g5 g6 g7 g8 g10 g11 g12 g13 g14 g15 g16 g17 g18 r0 r1 r2 r9 x3).2 = r0 := by
  unfold bM_guarded_143
  rfl
theorem v_bM_guarded_138 (g3 g4 g5 g6 g7 g8 g10 g11 g12 g13 g14 g15 g16 g17 g18 : Int32) (r0 r1 r2 r9 : Nat → Int32) (x3 : Int32) : vM (bM_guarded_138 g3 g4 g5 g6 g7 g8 g10 g11 g12 g13 g14 g15 g16 g17 g18 r0 r1 r2 r9 x3).2 = r0 := by
  unfold bM_guarded_138
  exact v_bM_guarded_143 ..
theorem v_bM_guarded_111 (g3 g4 g5 g6 g7 g8 g10 g11 g12 g13 g14 g15 g16 g17 g18 : Int32) (r0 r1 r2 r9 : Nat → Int32) (x3 : Int32) : vM (bM_guarded_111 g3 g4 g5 g6 g7 g8 g10 g11 g12 g13 g14 g15 g16 g17 g18 r0 r1 r2 r9 x3).2 = r0 := by
  unfold bM_guarded_111
  split
  · exact v_bM_guarded_143 ..
  · exact v_bM_guarded_138 ..
theorem v_bM_guarded_103 (g3 g4 g5 g6 g7 g8 g10 g11 g12 g13 g14 g15 g16 g17 g18 : Int32) (r0 r1 r2 r9 : Nat → Int32) (x3 : Int32) : vM (bM_guarded_103 g3 g4 g5 g6 g7 g8 g10 g11 g12 g13 g14 g15 g16 g17 g18 r0 r1 r2 r9 x3).2 = r0 := by
  unfold bM_guarded_103
  split
  · exact v_bM_guarded_111 ..
  · exact v_bM_guarded_138 ..
theorem v_bM_guarded_99 (g3 g4 g5 g6 g7 g8 g10 g11 g12 g13 g14 g15 g16 g17 g18 : Int32) (r0 r1 r2 r9 : Nat → Int32) (x3 : Int32) : vM (bM_guarded_99 g3 g4 g5 g6 g7 g8 g10 g11 g12 g13 g14 g15 g16 g17 g18 r0 r1 r2 r9 x3).2 = r0 := by
  unfold bM_guarded_99
  exact v_bM_guarded_103 ..
theorem v_bM_guarded_87 (g3 g4 g5 g6 g7 g8 g10 g11 g12 g13 g14 g15 g16 g17 g18 : Int32) (r0 r1 r2 r9 : Nat → Int32) (x3 : Int32) : vM (bM_guarded_87 g3 g4 g5 g6 g7 g8 g10 g11 g12 g13 g14 g15 g16 g17 g18 r0 r1 r2 r9 x3).2 = r0 := by
  unfold bM_guarded_87
  split
  · exact v_bM_guarded_103 ..
  · exact v_bM_guarded_99 ..
theorem v_bM_guarded_79 (g3 g4 g5 g6 g7 g8 g10 g11 g12 g13 g14 g15 g16 g17 g18 : Int32) (r0 r1 r2 r9 : Nat → Int32) (x3 : Int32) : vM (bM_guarded_79 g3 g4 g5 g6 g7 g8 g10 g11 g12 g13 g14 g15 g16 g17 g18 r0 r1 r2 r9 x3).2 = r0 := by
  unfold bM_guarded_79
  split
  · exact v_bM_guarded_87 ..
  · exact v_bM_guarded_103 ..
theorem v_bM_guarded_65 (g3 g4 g5 g6 g7 g8 g10 g11 g12 g13 g14 g15 g16 g17 g18 : Int32) (r0 r1 r2 r9 : Nat → Int32) (x3 : Int32) : vM (bM_guarded_65 g3 g4 g5 g6 g7 g8 g10 g11 g12 g13 g14 g15 g16 g17 g18 r0 r1 r2 r9 x3).2 = r0 := by
  unfold bM_guarded_65
  exact v_bM_guarded_79 ..
theorem v_bM_guarded_58 (g3 g4 g5 g6 g7 g8 g10 g11 g12 g13 g14 g15 g16 g17 g18 : Int32) (r0 r1 r2 r9 : Nat → Int32) (x1 : Int32) (y0 : Int32) : vM (bM_guarded_58 g3 g4 g5 g6 g7 g8 g10 g11 g12 g13 g14 g15 g16 g17 g18 r0 r1 r2 r9 x1 y0).2 = r0 := by
  unfold bM_guarded_58
  split
  · exact v_bM_guarded_79 ..
  · exact v_bM_guarded_65 ..
theorem v_bM_guarded_57 (g3 g4 g5 g6 g7 g8 g10 g11 g12 g13 g14 g15 g16 g17 g18 : Int32) (r0 r1 r2 r9 : Nat → Int32) (x1 : Int32) : vM (bM_guarded_57 g3 g4 g5 g6 g7 g8 g10 g11 g12 g13 g14 g15 g16 g17 g18 r0 r1 r2 r9 x1).2 = r0 := by
  unfold bM_guarded_57
  exact v_bM_guarded_58 ..
theorem v_bM_guarded_53 (g3 g4 g5 g6 g7 g8 g10 g11 g12 g13 g14 g15 g16 g17 g18 : Int32) (r0 r1 r2 r9 : Nat → Int32) (x1 : Int32) : vM (bM_guarded_53 g3 g4 g5 g6 g7 g8 g10 g11 g12 g13 g14 g15 g16 g17 g18 r0 r1 r2 r9 x1).2 = r0 := by
  unfold bM_guarded_53
  exact v_bM_guarded_58 ..
theorem v_bM_guarded_35 (g3 g4 g5 g6 g7 g8 g10 g11 g12 g13 g14 g15 g16 g17 g18 : Int32) (r0 r1 r2 r9 : Nat → Int32) (x1 : Int32) : vM (bM_guarded_35 g3 g4 g5 g6 g7 g8 g10 g11 g12 g13 g14 g15 g16 g17 g18 r0 r1 r2 r9 x1).2 = r0 := by
  unfold bM_guarded_35
  split
  · exact v_bM_guarded_57 ..
  · exact v_bM_guarded_53 ..
theorem v_bM_guarded_16 (g3 g4 g5 g6 g7 g8 g10 g11 g12 g13 g14 g15 g16 g17 g18 : Int32) (r0 r1 r2 r9 : Nat → Int32) (x1 : Int32) : vM (bM_guarded_16 g3 g4 g5 g6 g7 g8 g10 g11 g12 g13 g14 g15 g16 g17 g18 r0 r1 r2 r9 x1).2 = r0 := by
  unfold bM_guarded_16
  split
  · exact v_bM_guarded_35 ..
  · exact v_bM_guarded_53 ..
theorem v_bM_guarded_7 (g3 g4 g5 g6 g7 g8 g10 g11 g12 g13 g14 g15 g16 g17 g18 : Int32) (r0 r1 r2 r9 : Nat → Int32) (x1 : Int32) : vM (bM_guarded_7 g3 g4 g5 g6 g7 g8 g10 g11 g12 g13 g14 g15 g16 g17 g18 r0 r1 r2 r9 x1).2 = r0 := by
  unfold bM_guarded_7
  split
  · exact v_bM_guarded_16 ..
  · exact v_bM_guarded_53 ..
theorem v_bM_guarded_0 (g3 g4 g5 g6 g7 g8 g10 g11 g12 g13 g14 g15 g16 g17 g18 : Int32) (r0 r1 r2 r9 : Nat → Int32) (x1 : Int32) : vM (bM_guarded_0 g3 g4 g5 g6 g7 g8 g10 g11 g12 g13 g14 g15 g16 g17 g18 r0 r1 r2 r9 x1).2 = r0 := by
  unfold bM_guarded_0
  split
  · exact v_bM_guarded_57 ..
  · exact v_bM_guarded_7 ..
theorem v_sM_guarded (g3 g4 g5 g6 g7 g8 g10 g11 g12 g13 g14 g15 g16 g17 g18 : Int32) (r0 r1 r2 r9 : Nat → Int32) (k1 : Int32) : vM (sM_guarded g3 g4 g5 g6 g7 g8 g10 g11 g12 g13 g14 g15 g16 g17 g18 r0 r1 r2 r9 k1).2 = r0 := by
  unfold sM_guarded
  exact v_bM_guarded_0 ..
theorem v_bM_one_194 (g3 g4 g5 g6 g7 g8 g10 g11 g12 g13 g14 g15 g16 g17 g18 : Int32) (r0 r1 r2 r9 : Nat → Int32) : vM (bM_one_194 g3 g4 g5 g6 g7 g8 g10 g11 g12 g13 g14 g15 g16 g17 g18 r0 r1 r2 r9).2 = r0 := by
  unfold bM_one_194
  rfl
theorem v_bM_one_190 (g3 g4 g5 g6 g7 g8 g10 g11 g12 g13 g14 g15 g16 g17 g18 : Int32) (r0 r1 r2 r9 : Nat → Int32) : vM (bM_one_190 g3 g4 g5 g6 g7 g8 g10 g11 g12 g13 g14 g15 g16 g17 g18 r0 r1 r2 r9).2 = r0 := by
  unfold bM_one_190
  rfl
theorem v_bM_one_182 (g3 g4 g5 g6 g7 g8 g10 g11 g12 g13 g14 g15 g16 g17 g18 : Int32) (r0 r1 r2 r9 : Nat → Int32) (x1 : Int32) : vM (bM_one_182 g3 g4 g5 g6 g7 g8 g10 g11 g12 g13 g14 g15 g16 g17 g18 r0 r1 r2 r9 x1).2 = r0 := by
  unfold bM_one_182
  split
  · exact v_bM_one_194 ..
  · exact v_bM_one_190 ..
theorem v_bM_one_178 (g3 g4 g5 g6 g7 g8 g10 g11 g12 g13 g14 g15 g16 g17 g18 : Int32) (r0 r1 r2 r9 : Nat → Int32) (x1 : Int32) (x3 : Int32) : vM (bM_one_178 g3 g4 g5 g6 g7 g8 g10 g11 g12 g13 g14 g15 g16 g17 g18 r0 r1 r2 r9 x1 x3).2 = r0 := by
  unfold bM_one_178
  split
  · exact v_bM_one_182 ..
  · exact v_bM_one_190 ..
theorem v_bM_one_175q (x1 : Int32) (x3 : Int32) (q : SM) : vM (bM_one_175q x1 x3 q).2 = vM q := by
  obtain ⟨g3, g4, g5, g6, g7, g8, g10, g11, g12, g13, g14, g15, g16, g17, g18, r0, r1, r2, r9⟩ := q
  unfold bM_one_175q
  dsimp only
  first | exact v_bM_one_178 ..
theorem v_bM_one_173 (g3 g4 g5 g6 g7 g8 g10 g11 g12 g13 g14 g15 g16 g17 g18 : Int32) (r0 r1 r2 r9 : Nat → Int32) (x1 : Int32) (x3 : Int32) : vM (bM_one_173 g3 g4 g5 g6 g7 g8 g10 g11 g12 g13 g14 g15 g16 g17 g18 r0 r1 r2 r9 x1 x3).2 = r0 := by
  unfold bM_one_173
  rw [v_bM_one_175q]
  exact v_sM_enter ..
theorem v_bM_one_168 (g3 g4 g5 g6 g7 g8 g10 g11 g12 g13 g14 g15 g16 g17 g18 : Int32) (r0 r1 r2 r9 : Nat → Int32) (x1 : Int32) (y0 : Int32) : vM (bM_one_168 g3 g4 g5 g6 g7 g8 g10 g11 g12 g13 g14 g15 g16 g17 g18 r0 r1 r2 r9 x1 y0).2 = r0 := by
  unfold bM_one_168
  split
  · exact v_bM_one_178 ..
  · exact v_bM_one_173 ..
theorem v_bM_one_167 (g3 g4 g5 g6 g7 g8 g10 g11 g12 g13 g14 g15 g16 g17 g18 : Int32) (r0 r1 r2 r9 : Nat → Int32) (x1 : Int32) : vM (bM_one_167 g3 g4 g5 g6 g7 g8 g10 g11 g12 g13 g14 g15 g16 g17 g18 r0 r1 r2 r9 x1).2 = r0 := by
  unfold bM_one_167
  exact v_bM_one_168 ..
theorem v_bM_one_163 (g3 g4 g5 g6 g7 g8 g10 g11 g12 g13 g14 g15 g16 g17 g18 : Int32) (r0 r1 r2 r9 : Nat → Int32) (x1 : Int32) : vM (bM_one_163 g3 g4 g5 g6 g7 g8 g10 g11 g12 g13 g14 g15 g16 g17 g18 r0 r1 r2 r9 x1).2 = r0 := by
  unfold bM_one_163
  exact v_bM_one_168 ..
theorem v_bM_one_146 (g3 g4 g5 g6 g7 g8 g10 g11 g12 g13 g14 g15 g16 g17 g18 : Int32) (r0 r1 r2 r9 : Nat → Int32) (x1 : Int32) : vM (bM_one_146 g3 g4 g5 g6 g7 g8 g10 g11 g12 g13 g14 g15 g16 g17 g18 r0 r1 r2 r9 x1).2 = r0 := by
  unfold bM_one_146
  split
  · exact v_bM_one_163 ..
  · exact v_bM_one_167 ..
theorem v_bM_one_138 (g3 g4 g5 g6 g7 g8 g10 g11 g12 g13 g14 g15 g16 g17 g18 : Int32) (r0 r1 r2 r9 : Nat → Int32) (x1 : Int32) : vM (bM_one_138 g3 g4 g5 g6 g7 g8 g10 g11 g12 g13 g14 g15 g16 g17 g18 r0 r1 r2 r9 x1).2 = r0 := by
  unfold bM_one_138
  split
  · exact v_bM_one_146 ..
  · exact v_bM_one_167 ..
theorem v_bM_one_128 (g3 g4 g5 g6 g7 g8 g10 g11 g12 g13 g14 g15 g16 g17 g18 : Int32) (r0 r1 r2 r9 : Nat → Int32) (x1 : Int32) : vM (bM_one_128 g3 g4 g5 g6 g7 g8 g10 g11 g12 g13 g14 g15 g16 g17 g18 r0 r1 r2 r9 x1).2 = r0 := by
  unfold bM_one_128
  exact v_bM_one_138 ..
theorem v_bM_one_120 (g3 g4 g5 g6 g7 g8 g10 g11 g12 g13 g14 g15 g16 g17 g18 : Int32) (r0 r1 r2 r9 : Nat → Int32) (x1 : Int32) : vM (bM_one_120 g3 g4 g5 g6 g7 g8 g10 g11 g12 g13 g14 g15 g16 g17 g18 r0 r1 r2 r9 x1).2 = r0 := by
  unfold bM_one_120
  split
  · exact v_bM_one_128 ..
  · exact v_bM_one_138 ..
theorem v_bM_one_111 (g3 g4 g5 g6 g7 g8 g10 g11 g12 g13 g14 g15 g16 g17 g18 : Int32) (r0 r1 r2 r9 : Nat → Int32) (x1 : Int32) : vM (bM_one_111 g3 g4 g5 g6 g7 g8 g10 g11 g12 g13 g14 g15 g16 g17 g18 r0 r1 r2 r9 x1).2 = r0 := by
  unfold bM_one_111
  split
  · exact v_bM_one_120 ..
  · exact v_bM_one_128 ..
theorem v_bM_one_103 (g3 g4 g5 g6 g7 g8 g10 g11 g12 g13 g14 g15 g16 g17 g18 : Int32) (r0 r1 r2 r9 : Nat → Int32) (x1 : Int32) : vM (bM_one_103 g3 g4 g5 g6 g7 g8 g10 g11 g12 g13 g14 g15 g16 g17 g18 r0 r1 r2 r9 x1).2 = r0 := by
  unfold bM_one_103
  split
  · exact v_bM_one_111 ..
  · exact v_bM_one_120 ..
theorem v_bM_one_92 (g3 g4 g5 g6 g7 g8 g10 g11 g12 g13 g14 g15 g16 g17 g18 : Int32) (r0 r1 r2 r9 : Nat → Int32) (x1 : Int32) (y0 : Int32) : vM (bM_one_92 g3 g4 g5 g6 g7 g8 g10 g11 g12 g13 g14 g15 g16 g17 g18 r0 r1 r2 r9 x1 y0).2 = r0 := by
  unfold bM_one_92
  split
  · exact v_bM_one_111 ..
  · exact v_bM_one_103 ..
theorem v_bM_one_88 (g3 g4 g5 g6 g7 g8 g10 g11 g12 g13 g14 g15 g16 g17 g18 : Int32) (r0 r1 r2 r9 : Nat → Int32) (x1 : Int32) : vM (bM_one_88 g3 g4 g5 g6 g7 g8 g10 g11 g12 g13 g14 g15 g16 g17 g18 r0 r1 r2 r9 x1).2 = r0 := by
  unfold bM_one_88
  exact v_bM_one_92 ..
theorem v_bM_one_79 (g3 g4 g5 g6 g7 g8 g10 g11 g12 g13 g14 g15 g16 g17 g18 : Int32) (r0 r1 r2 r9 : Nat → Int32) (x1 : Int32) : vM (bM_one_79 g3 g4 g5 g6 g7 g8 g10 g11 g12 g13 g14 g15 g16 g17 g18 r0 r1 r2 r9 x1).2 = r0 := by
  unfold bM_one_79
  exact v_bM_one_92 ..
theorem v_bM_one_65 (g3 g4 g5 g6 g7 g8 g10 g11 g12 g13 g14 g15 g16 g17 g18 : Int32) (r0 r1 r2 r9 : Nat → Int32) (x1 : Int32) (y0 : Int32) : vM (bM_one_65 g3 g4 g5 g6 g7 g8 g10 g11 g12 g13 g14 g15 g16 g17 g18 r0 r1 r2 r9 x1 y0).2 = r0 := by
  unfold bM_one_65
  split
  · exact v_bM_one_88 ..
  · exact v_bM_one_79 ..
theorem v_bM_one_62q (x1 : Int32) (q : Int32 × SM) : vM (bM_one_62q x1 q).2 = vM q.2 := by
  obtain ⟨y0, g3, g4, g5, g6, g7, g8, g10, g11, g12, g13, g14, g15, g16, g17, g18, r0, r1, r2, r9⟩ := q
  unfold bM_one_62q
  dsimp only
  first | exact v_bM_one_65 ..
theorem v_bM_one_62 (g3 g4 g5 g6 g7 g8 g10 g11 g12 g13 g14 g15 g16 g17 g18 : Int32) (r0 r1 r2 r9 : Nat → Int32) (x1 : Int32) (y0 : Int32) : vM (bM_one_62 g3 g4 g5 g6 g7 g8 g10 g11 g12 g13 g14 g15 g16 g17 g18 r0 r1 r2 r9 x1 y0).2 = r0 := by
  unfold bM_one_62
  rw [v_bM_one_62q]
  exact v_sM_guarded ..
theorem v_bM_one_58 (g3 g4 g5 g6 g7 g8 g10 g11 g12 g13 g14 g15 g16 g17 g18 : Int32) (r0 r1 r2 r9 : Nat → Int32) (x1 : Int32) : vM (bM_one_58 g3 g4 g5 g6 g7 g8 g10 g11 g12 g13 g14 g15 g16 g17 g18 r0 r1 r2 r9 x1).2 = r0 := by
  unfold bM_one_58
  exact v_bM_one_62 ..
theorem v_bM_one_54 (g3 g4 g5 g6 g7 g8 g10 g11 g12 g13 g14 g15 g16 g17 g18 : Int32) (r0 r1 r2 r9 : Nat → Int32) (x1 : Int32) (x2 : Int32) : vM (bM_one_54 g3 g4 g5 g6 g7 g8 g10 g11 g12 g13 g14 g15 g16 g17 g18 r0 r1 r2 r9 x1 x2).2 = r0 := by
  unfold bM_one_54
  exact v_bM_one_62 ..
theorem v_bM_one_44 (g3 g4 g5 g6 g7 g8 g10 g11 g12 g13 g14 g15 g16 g17 g18 : Int32) (r0 r1 r2 r9 : Nat → Int32) (x1 : Int32) (y0 : Int32) : vM (bM_one_44 g3 g4 g5 g6 g7 g8 g10 g11 g12 g13 g14 g15 g16 g17 g18 r0 r1 r2 r9 x1 y0).2 = r0 := by
  unfold bM_one_44
  split
  · exact v_bM_one_58 ..
  · exact v_bM_one_54 ..
theorem v_bM_one_41q (x1 : Int32) (q : Int32 × SM) : vM (bM_one_41q x1 q).2 = vM q.2 := by
  obtain ⟨y0, g3, g4, g5, g6, g7, g8, g10, g11, g12, g13, g14, g15, g16, g17, g18, r0, r1, r2, r9⟩ := q
  unfold bM_one_41q
  dsimp only
  first | exact v_bM_one_44 ..
theorem v_bM_one_19 (g3 g4 g5 g6 g7 g8 g10 g11 g12 g13 g14 g15 g16 g17 g18 : Int32) (r0 r1 r2 r9 : Nat → Int32) (x1 : Int32) : vM (bM_one_19 g3 g4 g5 g6 g7 g8 g10 g11 g12 g13 g14 g15 g16 g17 g18 r0 r1 r2 r9 x1).2 = r0 := by
  unfold bM_one_19
  rw [v_bM_one_41q]
  exact v_sM_commands ..
theorem v_bM_one_16q (x1 : Int32) (q : SM) : vM (bM_one_16q x1 q).2 = vM q := by
  obtain ⟨g3, g4, g5, g6, g7, g8, g10, g11, g12, g13, g14, g15, g16, g17, g18, r0, r1, r2, r9⟩ := q
  unfold bM_one_16q
  dsimp only
  first | exact v_bM_one_19 ..
theorem v_bM_one_0 (g3 g4 g5 g6 g7 g8 g10 g11 g12 g13 g14 g15 g16 g17 g18 : Int32) (r0 r1 r2 r9 : Nat → Int32) : vM (bM_one_0 g3 g4 g5 g6 g7 g8 g10 g11 g12 g13 g14 g15 g16 g17 g18 r0 r1 r2 r9).2 = r0 := by
  unfold bM_one_0
  rw [v_bM_one_16q]
  exact vM_condition ..
theorem v_sM_one (g3 g4 g5 g6 g7 g8 g10 g11 g12 g13 g14 g15 g16 g17 g18 : Int32) (r0 r1 r2 r9 : Nat → Int32) : vM (sM_one g3 g4 g5 g6 g7 g8 g10 g11 g12 g13 g14 g15 g16 g17 g18 r0 r1 r2 r9).2 = r0 := by
  unfold sM_one
  exact v_bM_one_0 ..

theorem vM_one (g3 g4 g5 g6 g7 g8 g10 g11 g12 g13 g14 g15 g16 g17 g18 : Int32) (r0 r1 r2 r9 : Nat → Int32) : vM (sM_one g3 g4 g5 g6 g7 g8 g10 g11 g12 g13 g14 g15 g16 g17 g18 r0 r1 r2 r9).2 = r0 := v_sM_one ..
theorem hV_one {g3 g4 g5 g6 g7 g8 g10 g11 g12 g13 g14 g15 g16 g17 g18 : Int32} {r0 r1 r2 r9 : Nat → Int32} {q : Int32} {u : SM} {r0' : Nat → Int32} (h : hVof r0) (hu : (q, u) = sM_one g3 g4 g5 g6 g7 g8 g10 g11 g12 g13 g14 g15 g16 g17 g18 r0 r1 r2 r9) (he : vM u = r0' := by rfl) : hVof r0' := by
  have h1 := vM_one g3 g4 g5 g6 g7 g8 g10 g11 g12 g13 g14 g15 g16 g17 g18 r0 r1 r2 r9
  rw [← hu] at h1
  rw [← he]
  show hVof (vM (q, u).2)
  rw [h1]
  exact h
