abbrev bad (r : Nat → Int32) (j : Nat) : Prop := r j < tSL j ∨ tSG j < r j
def cN (r1 r2 : Nat → Int32) (i : Nat) : Nat → Int32 := fun j => if i ≤ j ∧ j < 6 ∧ ¬ bad r1 j then r1 j else r2 j
def iN (r1 r3 : Nat → Int32) (i : Nat) : Nat → Int32 := fun j => if i ≤ j ∧ j < 6 then (if bad r1 j then r3 j + 1 else 0) else r3 j
def pN (r1 r9 : Nat → Int32) (w : Int32) (i : Nat) : Nat → Int32 := fun j => if i ≤ j ∧ j < 6 ∧ ¬ bad r1 j then w else r9 j
theorem cN_6 (r1 r2 : Nat → Int32) : cN r1 r2 6 = r2 := by
  funext j
  unfold cN
  exact if_neg (fun q => by have := q.1; have := q.2.1; omega)
theorem iN_6 (r1 r3 : Nat → Int32) : iN r1 r3 6 = r3 := by
  funext j
  unfold iN
  exact if_neg (fun q => by have := q.1; have := q.2; omega)
theorem pN_6 (r1 r9 : Nat → Int32) (w : Int32) : pN r1 r9 w 6 = r9 := by
  funext j
  unfold pN
  exact if_neg (fun q => by have := q.1; have := q.2.1; omega)
theorem cN_b {r1 r2 : Nat → Int32} {i : Nat} (h : bad r1 i) : cN r1 r2 (i + 1) = cN r1 r2 i := by
  funext j
  unfold cN
  by_cases hj : j = i
  · subst hj
    rw [if_neg (fun q => by have := q.1; omega), if_neg (fun q => q.2.2 h)]
  · have e : (i + 1 ≤ j) ↔ (i ≤ j) := by omega
    simp only [e]
theorem cN_g {r1 r2 : Nat → Int32} {i : Nat} (hi : i < 6) (h : ¬ bad r1 i) : cN r1 (upd r2 i (r1 i)) (i + 1) = cN r1 r2 i := by
  funext j
  unfold cN
  by_cases hj : j = i
  · subst hj
    rw [if_neg (fun q => by have := q.1; omega), if_pos ⟨Nat.le_refl _, hi, h⟩]
    exact pk_us
  · have e : (i + 1 ≤ j) ↔ (i ≤ j) := by omega
    rw [pk_un hj]
    simp only [e]
theorem iN_b {r1 r3 : Nat → Int32} {i : Nat} (hi : i < 6) (h : bad r1 i) : iN r1 (upd r3 i (r3 i + 1)) (i + 1) = iN r1 r3 i := by
  funext j
  unfold iN
  by_cases hj : j = i
  · subst hj
    rw [if_neg (fun q => by have := q.1; omega), if_pos ⟨Nat.le_refl _, hi⟩, if_pos h]
    exact pk_us
  · have e : (i + 1 ≤ j) ↔ (i ≤ j) := by omega
    rw [pk_un hj]
    simp only [e]
theorem iN_g {r1 r3 : Nat → Int32} {i : Nat} (hi : i < 6) (h : ¬ bad r1 i) : iN r1 (upd r3 i 0) (i + 1) = iN r1 r3 i := by
  funext j
  unfold iN
  by_cases hj : j = i
  · subst hj
    rw [if_neg (fun q => by have := q.1; omega), if_pos ⟨Nat.le_refl _, hi⟩, if_neg h]
    exact pk_us
  · have e : (i + 1 ≤ j) ↔ (i ≤ j) := by omega
    rw [pk_un hj]
    simp only [e]
theorem pN_b {r1 r9 : Nat → Int32} {w : Int32} {i : Nat} (h : bad r1 i) : pN r1 r9 w (i + 1) = pN r1 r9 w i := by
  funext j
  unfold pN
  by_cases hj : j = i
  · subst hj
    rw [if_neg (fun q => by have := q.1; omega), if_neg (fun q => q.2.2 h)]
  · have e : (i + 1 ≤ j) ↔ (i ≤ j) := by omega
    simp only [e]
theorem pN_g {r1 r9 : Nat → Int32} {w : Int32} {i : Nat} (hi : i < 6) (h : ¬ bad r1 i) : pN r1 (upd r9 i w) w (i + 1) = pN r1 r9 w i := by
  funext j
  unfold pN
  by_cases hj : j = i
  · subst hj
    rw [if_neg (fun q => by have := q.1; omega), if_pos ⟨Nat.le_refl _, hi, h⟩]
    exact pk_us
  · have e : (i + 1 ≤ j) ↔ (i ≤ j) := by omega
    rw [pk_un hj]
    simp only [e]
theorem cS_loop (k : Nat) : k ≤ 6 → ∀ (g4 g5 g6 g7 g8 g9 g10 g11 g12 g13 g14 g15 g16 g17 : Int32) (r0 r1 r2 r3 : Nat → Int32), bX_conditionSensors_2 (k + 1) g4 g5 g6 g7 g8 g9 g10 g11 g12 g13 g14 g15 g16 g17 r0 r1 r2 r3 (nI (6 - k)) = (g4, g5, g6, g7, g8, g9, g10, g11, g12, g13, g14, g15, g16, g17, r0, r1, cN r1 r2 (6 - k), iN r1 r3 (6 - k)) := by
  induction k with
  | zero =>
    intros
    rw [bX_conditionSensors_2_s, if_pos (by decide +kernel), cN_6, iN_6]
  | succ k ih =>
    intro hk g4 g5 g6 g7 g8 g9 g10 g11 g12 g13 g14 g15 g16 g17 r0 r1 r2 r3
    have hc : (nI (6 - (k + 1))).toNatClampNeg = 6 - (k + 1) := nI_clamp (by omega)
    have hi : nI (6 - (k + 1)) + 1 = nI (6 - k) := bw_nx rfl hk
    have h6 : 6 - k = 6 - (k + 1) + 1 := by omega
    have hlt : 6 - (k + 1) < 6 := by omega
    rw [bX_conditionSensors_2_s, if_neg (by rw [show (6 : Int32) = nI 6 from rfl]; exact nI_ge (by omega) (by decide))]
    unfold bX_conditionSensors_8
    rw [out_eq, hc]
    by_cases hb : bad r1 (6 - (k + 1))
    · rw [if_pos hb, if_neg (by decide)]
      unfold bX_conditionSensors_30 bX_conditionSensors_62
      rw [hi, ih (by omega), hc, h6, cN_b hb, iN_b hlt hb]
    · rw [if_neg hb, if_pos rfl]
      unfold bX_conditionSensors_43 bX_conditionSensors_62
      rw [hi, ih (by omega), hc, h6, cN_g hlt hb, iN_g hlt hb]
theorem cS_eq (g4 g5 g6 g7 g8 g9 g10 g11 g12 g13 g14 g15 g16 g17 : Int32) (r0 r1 r2 r3 : Nat → Int32) : sX_conditionSensors g4 g5 g6 g7 g8 g9 g10 g11 g12 g13 g14 g15 g16 g17 r0 r1 r2 r3 = (g4, g5, g6, g7, g8, g9, g10, g11, g12, g13, g14, g15, g16, g17, r0, r1, cN r1 r2 0, iN r1 r3 0) := cS_loop 6 (Nat.le_refl _) ..
theorem pl_eq (g3 g4 g5 g6 g7 g8 g10 g11 g12 g13 g14 g15 g16 g17 g18 : Int32) (r0 r1 r2 r9 : Nat → Int32) {i : Nat} (hi : i < 6) : sM_isPlausible g3 g4 g5 g6 g7 g8 g10 g11 g12 g13 g14 g15 g16 g17 g18 r0 r1 r2 r9 (nI i) = if bad r1 i then 0 else 1 := by
  have hc : (nI i).toNatClampNeg = i := nI_clamp (by omega)
  have key : ∀ (lo hi v : Int32), (if v < lo then (0 : Int32) else if hi < v then 0 else 1) = if v < lo ∨ hi < v then 0 else 1 := by
    intro lo hi v
    by_cases h1 : v < lo
    · simp [h1]
    · by_cases h2 : hi < v
      · simp [h1, h2]
      · simp [h1, h2]
  unfold bad
  rcases (show i = 0 ∨ i = 1 ∨ i = 2 ∨ i = 3 ∨ i = 4 ∨ i = 5 by omega) with rfl | rfl | rfl | rfl | rfl | rfl
  · exact key (-700) 500 (r1 0)
  · exact key (-200) 800 (r1 1)
  · exact key 0 600 (r1 2)
  · exact key 0 3000 (r1 3)
  · exact key 0 1 (r1 4)
  · exact key 0 1 (r1 5)
theorem cM_loop (k : Nat) : k ≤ 6 → ∀ (g3 g4 g5 g6 g7 g8 g10 g11 g12 g13 g14 g15 g16 g17 g18 : Int32) (r0 r1 r2 r9 : Nat → Int32), bM_condition_2 (k + 1) g3 g4 g5 g6 g7 g8 g10 g11 g12 g13 g14 g15 g16 g17 g18 r0 r1 r2 r9 (nI (6 - k)) = bM_condition_44 g3 g4 g5 g6 g7 g8 g10 g11 g12 g13 g14 g15 g16 g17 g18 r0 r1 (cN r1 r2 (6 - k)) (pN r1 r9 g8 (6 - k)) := by
  induction k with
  | zero =>
    intros
    rw [bM_condition_2_s, if_pos (by decide +kernel), cN_6, pN_6]
  | succ k ih =>
    intro hk g3 g4 g5 g6 g7 g8 g10 g11 g12 g13 g14 g15 g16 g17 g18 r0 r1 r2 r9
    have hc : (nI (6 - (k + 1))).toNatClampNeg = 6 - (k + 1) := nI_clamp (by omega)
    have hi : nI (6 - (k + 1)) + 1 = nI (6 - k) := bw_nx rfl hk
    have h6 : 6 - k = 6 - (k + 1) + 1 := by omega
    have hlt : 6 - (k + 1) < 6 := by omega
    rw [bM_condition_2_s, if_neg (by rw [show (6 : Int32) = nI 6 from rfl]; exact nI_ge (by omega) (by decide))]
    unfold bM_condition_8
    rw [pl_eq _ _ _ _ _ _ _ _ _ _ _ _ _ _ _ _ _ _ _ hlt]
    by_cases hb : bad r1 (6 - (k + 1))
    · rw [if_pos hb, if_pos rfl]
      unfold bM_condition_38
      rw [hi, ih (by omega), h6, cN_b hb, pN_b hb]
    · rw [if_neg hb, if_neg (by decide)]
      unfold bM_condition_16 bM_condition_38
      rw [hi, ih (by omega), hc, h6, cN_g hlt hb, pN_g hlt hb]
theorem cM_eq (g3 g4 g5 g6 g7 g8 g10 g11 g12 g13 g14 g15 g16 g17 g18 : Int32) (r0 r1 r2 r9 : Nat → Int32) : sM_condition g3 g4 g5 g6 g7 g8 g10 g11 g12 g13 g14 g15 g16 g17 g18 r0 r1 r2 r9 = bM_condition_44 g3 g4 g5 g6 g7 g8 g10 g11 g12 g13 g14 g15 g16 g17 g18 r0 r1 (cN r1 r2 0) (pN r1 r9 g8 0) := cM_loop 6 (Nat.le_refl _) ..
def fB (r : Nat → Int32) : Nat → Bool
  | 0 => false
  | k + 1 => decide (3 ≤ r (6 - (k + 1))) || fB r k
theorem fB_congr {r q : Nat → Int32} (h : ∀ j, j < 6 → r j = q j) : ∀ k, k ≤ 6 → fB r k = fB q k
  | 0, _ => rfl
  | k + 1, hk => by
    unfold fB
    rw [h _ (by omega), fB_congr h k (by omega)]
theorem fX_loop (k : Nat) : k ≤ 6 → ∀ (g4 g5 g6 g7 g8 g9 g10 g11 g12 g13 g14 g15 g16 g17 : Int32) (r0 r1 r2 r3 : Nat → Int32), bX_isSomeSensorFaulty_2 (k + 1) g4 g5 g6 g7 g8 g9 g10 g11 g12 g13 g14 g15 g16 g17 r0 r1 r2 r3 (nI (6 - k)) = if fB r3 k = true then 1 else 0 := by
  induction k with
  | zero =>
    intros
    rw [bX_isSomeSensorFaulty_2_s, if_pos (by decide +kernel)]
    rfl
  | succ k ih =>
    intro hk g4 g5 g6 g7 g8 g9 g10 g11 g12 g13 g14 g15 g16 g17 r0 r1 r2 r3
    have hc : (nI (6 - (k + 1))).toNatClampNeg = 6 - (k + 1) := nI_clamp (by omega)
    have hi : nI (6 - (k + 1)) + 1 = nI (6 - k) := bw_nx rfl hk
    rw [bX_isSomeSensorFaulty_2_s, if_neg (by rw [show (6 : Int32) = nI 6 from rfl]; exact nI_ge (by omega) (by decide))]
    unfold bX_isSomeSensorFaulty_8 fB
    rw [hc]
    by_cases hb : r3 (6 - (k + 1)) < 3
    · have h3 : ¬ 3 ≤ r3 (6 - (k + 1)) := by rw [i_le]; rw [i_lt] at hb; omega
      rw [if_pos hb]
      unfold bX_isSomeSensorFaulty_20
      rw [hi, ih (by omega), decide_eq_false h3, Bool.false_or]
    · have h3 : 3 ≤ r3 (6 - (k + 1)) := by rw [i_le]; rw [i_lt] at hb; omega
      rw [if_neg hb, decide_eq_true h3, Bool.true_or]
      rfl
theorem fX_eq (g4 g5 g6 g7 g8 g9 g10 g11 g12 g13 g14 g15 g16 g17 : Int32) (r0 r1 r2 r3 : Nat → Int32) : sX_isSomeSensorFaulty g4 g5 g6 g7 g8 g9 g10 g11 g12 g13 g14 g15 g16 g17 r0 r1 r2 r3 = if fB r3 6 = true then 1 else 0 := fX_loop 6 (Nat.le_refl _) ..
