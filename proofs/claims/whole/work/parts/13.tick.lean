theorem m47 : ∀ k, k < 64 → ((nI k &&& 47 = 0) ↔ (nI k &&& (-17) = 0)) := by decide +kernel
theorem tPM_eq {g a : Int32} (ha : ∃ k, k < 64 ∧ a = nI k) : tPM g a = tP g a := by
  obtain ⟨k, hk, rfl⟩ := ha
  unfold tPM tP
  simp only [m47 k hk]
theorem tCM_eq (g a : Int32) : tCM g a = if tC g a = 0 then 0 else 2 := by
  unfold tCM tC
  by_cases h1 : rn g = 0
  · simp [h1]
  · by_cases h2 : a &&& 38 = 0
    · simp [h1, h2]
    · simp [h1, h2]
theorem tBM_eq {g a f m n : Int32} (hB : (0 < f) ↔ (m = n)) : tBM g a m n = if tBX g a f = 0 then 0 else 4 := by
  unfold tBM tBX
  by_cases h1 : g = 3
  · by_cases h2 : 0 < f
    · simp [h1, h2, hB.mp h2]
    · have h3 : ¬ m = n := fun q => h2 (hB.mpr q)
      by_cases h4 : a &&& 8 = 0
      · simp [h1, h2, h3, h4]
      · simp [h1, h2, h3, h4]
  · simp [h1]
theorem tP01 (g a : Int32) : tP g a = 0 ∨ tP g a = 1 := by
  unfold tP
  by_cases h1 : rn g = 0
  · exact Or.inl (if_pos h1)
  · rw [if_neg h1]
    exact ite2.symm
theorem tC01 (g a : Int32) : tC g a = 0 ∨ tC g a = 1 := by
  unfold tC
  by_cases h1 : rn g = 0
  · exact Or.inl (if_pos h1)
  · rw [if_neg h1]
    exact ite2.symm
theorem tB01 (g a f : Int32) : (tBX g a f = 0 ∧ g = 3) ∨ tBX g a f = 1 := by
  unfold tBX
  by_cases h1 : g = 3
  · rw [if_pos h1]
    by_cases h2 : 0 < f
    · exact Or.inr (if_pos h2)
    · rw [if_neg h2]
      by_cases h3 : a &&& 8 = 0
      · exact Or.inl ⟨if_pos h3, h1⟩
      · exact Or.inr (if_neg h3)
  · exact Or.inr (if_neg h1)
theorem cmd_ok {p3 a cn p6 p7 n m10 m11 m12 m13 p14 p15 p16 p17 p18 s14 s15 s16 s17 : Int32} {v0 v1 c i3 q9 : Nat → Int32} {V E C M : Nat} (ha : ∃ k, k < 64 ∧ a = nI k) (hB : (0 < s15) ↔ (m13 = n)) (h1 : v0 1 = nI V) (h3 : v0 3 = nI M) (he : p14 = nI E) (hc : p15 = nI C) (hV : V ≤ 6000) (hE : E < 400000) (hC : C < 400000) (hM0 : 1 ≤ M) (hM : M ≤ 600) :
    ∃ cmd e' c', sX_commandsOfControl p3 a cn p6 p7 p14 (500 * p15) p16 p17 p18 s14 s15 s16 s17 v0 v1 c i3 = (cmd, (p3, a, cn, p6, p7, e', 500 * c', p16, p17, p18, s14, s15, s16, s17, v0, v1, c, i3)) ∧ sM_commands p3 a cn p6 p7 n m10 m11 m12 m13 p14 p15 p16 p17 p18 v0 v1 c q9 = (cmd, (p3, a, cn, p6, p7, n, m10, m11, m12, m13, e', c', p16, p17, p18, v0, v1, c, q9)) ∧ (∃ m, m < 16 ∧ cmd = nI m) ∧ ((e' = p14 ∧ c' = p15) ∨ (p3 = 3 ∧ e' = p14 + 1 ∧ (c' = p15 ∨ c' = p15 + 1))) := by
  have hs := sw_eq p3 a cn p6 p7 (p14 + 1) (500 * p15) p16 p17 p18 s14 s15 s16 s17 v0 v1 c i3 p14 p15 (V := V) (E := E + 1) (C := C) (M := M) h1 h3 (by rw [he, nI_1]) rfl hc hV (by omega) (by omega) hM0 hM
  have h500 : 500 * p15 + 500 = 500 * (p15 + 1) := by grind
  rw [ccX_eq, ccM_eq, tPM_eq ha, tCM_eq, tBM_eq hB, hs, h500]
  have hb := tB01 p3 a s15
  rcases tP01 p3 a with e2 | e2 <;> rcases tC01 p3 a with e3 | e3 <;> rcases hb with ⟨e4, e5⟩ | e4 <;> rw [e2, e3, e4]
  · refine ⟨0, p14, p15, by simp [c3] <;> decide, ?_, ⟨0, by decide, rfl⟩, Or.inl ⟨rfl, rfl⟩⟩
    subst e5
    rfl
  · refine ⟨4, p14, p15, by simp [c3] <;> decide, ?_, ⟨4, by decide, rfl⟩, Or.inl ⟨rfl, rfl⟩⟩
    unfold bM_commands_100
    split <;> rfl
  · refine ⟨2, p14, p15, by simp [c3] <;> decide, ?_, ⟨2, by decide, rfl⟩, Or.inl ⟨rfl, rfl⟩⟩
    subst e5
    rfl
  · refine ⟨6, p14, p15, by simp [c3] <;> decide, ?_, ⟨6, by decide, rfl⟩, Or.inl ⟨rfl, rfl⟩⟩
    unfold bM_commands_100
    split <;> rfl
  · subst e5
    by_cases hw : 0 ≤ lg_cmp ((v0 1).toInt64 * 1000 * (p14 + 1).toInt64 / (600 * (v0 3).toInt64)) (500 * p15.toInt64 + 500)
    · refine ⟨9, p14 + 1, p15 + 1, by simp [c3, hw] <;> decide, ?_, ⟨9, by decide, rfl⟩, Or.inr ⟨rfl, rfl, Or.inr rfl⟩⟩
      show bM_commands_123 3 a cn p6 p7 n m10 m11 m12 m13 p14 p15 p16 p17 p18 v0 v1 c q9 1 = _
      unfold bM_commands_123
      rw [if_pos hw]
      rfl
    · refine ⟨1, p14 + 1, p15, by simp [c3, hw] <;> decide, ?_, ⟨1, by decide, rfl⟩, Or.inr ⟨rfl, rfl, Or.inl rfl⟩⟩
      show bM_commands_123 3 a cn p6 p7 n m10 m11 m12 m13 p14 p15 p16 p17 p18 v0 v1 c q9 1 = _
      unfold bM_commands_123
      rw [if_neg hw]
      rfl
  · refine ⟨5, p14, p15, by simp [c3] <;> decide, ?_, ⟨5, by decide, rfl⟩, Or.inl ⟨rfl, rfl⟩⟩
    unfold bM_commands_100
    split <;> rfl
  · subst e5
    by_cases hw : 0 ≤ lg_cmp ((v0 1).toInt64 * 1000 * (p14 + 1).toInt64 / (600 * (v0 3).toInt64)) (500 * p15.toInt64 + 500)
    · refine ⟨11, p14 + 1, p15 + 1, by simp [c3, hw] <;> decide, ?_, ⟨11, by decide, rfl⟩, Or.inr ⟨rfl, rfl, Or.inr rfl⟩⟩
      show bM_commands_123 3 a cn p6 p7 n m10 m11 m12 m13 p14 p15 p16 p17 p18 v0 v1 c q9 3 = _
      unfold bM_commands_123
      rw [if_pos hw]
      rfl
    · refine ⟨3, p14 + 1, p15, by simp [c3, hw] <;> decide, ?_, ⟨3, by decide, rfl⟩, Or.inr ⟨rfl, rfl, Or.inl rfl⟩⟩
      show bM_commands_123 3 a cn p6 p7 n m10 m11 m12 m13 p14 p15 p16 p17 p18 v0 v1 c q9 3 = _
      unfold bM_commands_123
      rw [if_neg hw]
      rfl
  · refine ⟨7, p14, p15, by simp [c3] <;> decide, ?_, ⟨7, by decide, rfl⟩, Or.inl ⟨rfl, rfl⟩⟩
    unfold bM_commands_100
    split <;> rfl
def dg (r1 : Nat → Int32) : Int32 := if r1 4 = 0 then (if sX_isOutside (r1 0) (-350) 250 = 0 then (if sX_isOutside (r1 1) (-50) 450 = 0 then 0 else 1) else 1) else 1
theorem dg_eq (g4 g5 g6 g7 g8 g9 g10 g11 g12 g13 g14 g15 g16 g17 : Int32) (r0 r1 r2 r3 : Nat → Int32) : sX_isRawDangerous g4 g5 g6 g7 g8 g9 g10 g11 g12 g13 g14 g15 g16 g17 r0 r1 r2 r3 = dg r1 := rfl
theorem m12 : ∀ k, k < 16 → nI k &&& (-12) = nI k &&& 4 := by decide +kernel
theorem prot_ok {p3 a cn p6 p7 n m10 m11 m12' m13 p14 p15 p16 p17 p18 s14 s15 s16 s17 e10 : Int32} {v0 v1 c i3 q9 : Nat → Int32} {z : Int32} (hz : ∃ m, m < 16 ∧ z = nI m) :
    ∃ o t', sX_afterProtection p3 a cn p6 p7 p14 e10 p16 p17 p18 s14 s15 s16 s17 v0 v1 c i3 z = (o, (p3, a, cn, p6, p7, p14, e10, p16, t', p18, s14, s15, s16, s17, v0, v1, c, i3)) ∧ sM_guarded p3 a cn p6 p7 n m10 m11 m12' m13 p14 p15 p16 p17 p18 v0 v1 c q9 z = (o, (p3, a, cn, p6, p7, n, m10, m11, m12', m13, p14, p15, p16, t', p18, v0, v1, c, q9)) := by
  obtain ⟨k, hk, rfl⟩ := hz
  have hcm : (p16 + 1) * 500 = 500 * (p16 + 1) := Int32.mul_comm _ _
  have hX : ∀ (t w : Int32), ∃ o, bX_afterProtection_31 p3 a cn p6 p7 p14 e10 p16 t p18 s14 s15 s16 s17 v0 v1 c i3 w = (o, (p3, a, cn, p6, p7, p14, e10, p16, t, p18, s14, s15, s16, s17, v0, v1, c, i3)) ∧ bM_guarded_79 p3 a cn p6 p7 n m10 m11 m12' m13 p14 p15 p16 t p18 v0 v1 c q9 w = (o, (p3, a, cn, p6, p7, n, m10, m11, m12', m13, p14, p15, p16, t, p18, v0, v1, c, q9)) := by
    intro t w
    simp only [bX_afterProtection_75, bX_afterProtection_70, bX_afterProtection_63, bX_afterProtection_55, bX_afterProtection_51, bX_afterProtection_39, bX_afterProtection_31, bM_guarded_143, bM_guarded_138, bM_guarded_111, bM_guarded_103, bM_guarded_99, bM_guarded_87, bM_guarded_79, bX_isStrokeTooMuch_31, bX_isStrokeTooMuch_27, bX_isStrokeTooMuch_0, sX_isStrokeTooMuch, hcm]
    by_cases h1 : p3 = 3
    · by_cases h2 : v1 2 ≤ 410
      · by_cases h4 : 500 * (p16 + 1) ≤ v0 1 * 1000 + 500
        · exact ⟨_, by simp only [h1, h2, h4, if_true]; rfl, by simp only [h1, h2, h4, if_true]⟩
        · exact ⟨_, by simp only [h1, h2, h4, if_true, if_false]; rfl, by simp only [h1, h2, h4, if_true, if_false]⟩
      · by_cases h4 : 500 * (p16 + 1) ≤ v0 1 * 1000 + 500
        · exact ⟨_, by simp only [h1, h2, h4, if_true, if_false]; rfl, by simp only [h1, h2, h4, if_true, if_false]⟩
        · exact ⟨_, by simp only [h1, h2, h4, if_true, if_false]; rfl, by simp only [h1, h2, h4, if_true, if_false]⟩
    · exact ⟨_, by simp only [h1, if_false]; rfl, by simp only [h1, if_false]⟩
  have xA : sX_afterProtection p3 a cn p6 p7 p14 e10 p16 p17 p18 s14 s15 s16 s17 v0 v1 c i3 (nI k) = if onP p3 = 0 then bX_afterProtection_31 p3 a cn p6 p7 p14 e10 p16 p17 p18 s14 s15 s16 s17 v0 v1 c i3 (nI k) else if dg v1 = 0 then bX_afterProtection_31 p3 a cn p6 p7 p14 e10 p16 p17 p18 s14 s15 s16 s17 v0 v1 c i3 (nI k) else bX_afterProtection_31 p3 a cn p6 p7 p14 e10 p16 (p17 + 1) p18 s14 s15 s16 s17 v0 v1 c i3 (nI k &&& (-12)) := rfl
  have mA : sM_guarded p3 a cn p6 p7 n m10 m11 m12' m13 p14 p15 p16 p17 p18 v0 v1 c q9 (nI k) = if onP p3 = 0 then bM_guarded_79 p3 a cn p6 p7 n m10 m11 m12' m13 p14 p15 p16 p17 p18 v0 v1 c q9 (nI k) else if dg v1 = 0 then bM_guarded_79 p3 a cn p6 p7 n m10 m11 m12' m13 p14 p15 p16 p17 p18 v0 v1 c q9 (nI k) else bM_guarded_79 p3 a cn p6 p7 n m10 m11 m12' m13 p14 p15 p16 (p17 + 1) p18 v0 v1 c q9 (nI k &&& 4) := by
    unfold sM_guarded bM_guarded_0
    rw [onM_eq]
    by_cases h1 : onP p3 = 0
    · rw [if_pos h1, if_pos h1]
      rfl
    · rw [if_neg h1, if_neg h1]
      unfold bM_guarded_7 dg
      by_cases h2 : v1 4 = 0
      · rw [if_pos h2, if_pos h2]
        unfold bM_guarded_16
        rw [outM_eq]
        by_cases h3 : sX_isOutside (v1 0) (-350) 250 = 0
        · rw [if_pos h3, if_pos h3]
          unfold bM_guarded_35
          rw [outM_eq]
          by_cases h4 : sX_isOutside (v1 1) (-50) 450 = 0
          · rw [if_pos h4, if_pos h4, if_pos rfl]
            rfl
          · rw [if_neg h4, if_neg h4, if_neg (by decide)]
            rfl
        · rw [if_neg h3, if_neg h3, if_neg (by decide)]
          rfl
      · rw [if_neg h2, if_neg h2, if_neg (by decide)]
        rfl
  rw [xA, mA, m12 k hk]
  by_cases h1 : onP p3 = 0
  · rw [if_pos h1, if_pos h1]
    obtain ⟨o, q1, q2⟩ := hX p17 (nI k)
    exact ⟨o, p17, q1, q2⟩
  · rw [if_neg h1, if_neg h1]
    by_cases h2 : dg v1 = 0
    · rw [if_pos h2, if_pos h2]
      obtain ⟨o, q1, q2⟩ := hX p17 (nI k)
      exact ⟨o, p17, q1, q2⟩
    · rw [if_neg h2, if_neg h2]
      obtain ⟨o, q1, q2⟩ := hX (p17 + 1) (nI k &&& 4)
      exact ⟨o, p17 + 1, q1, q2⟩
