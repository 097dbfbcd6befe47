def onP (g : Int32) : Int32 := if g < 2 then 0 else if 4 < g then 0 else 1
theorem conn_eq (g4 g5 g6 g7 g8 g9 g10 g11 g12 g13 g14 g15 g16 g17 : Int32) (r0 r1 r2 r3 : Nat → Int32) : sX_isConnected g4 g5 g6 g7 g8 g9 g10 g11 g12 g13 g14 g15 g16 g17 r0 r1 r2 r3 = onP g4 := rfl
theorem onM_eq (g3 g4 g5 g6 g7 g8 g10 g11 g12 g13 g14 g15 g16 g17 g18 : Int32) (r0 r1 r2 r9 : Nat → Int32) : sM_onPatient g3 g4 g5 g6 g7 g8 g10 g11 g12 g13 g14 g15 g16 g17 g18 r0 r1 r2 r9 = onP g3 := rfl
theorem outM_eq (g3 g4 g5 g6 g7 g8 g10 g11 g12 g13 g14 g15 g16 g17 g18 : Int32) (r0 r1 r2 r9 : Nat → Int32) (a b c : Int32) : sM_outside g3 g4 g5 g6 g7 g8 g10 g11 g12 g13 g14 g15 g16 g17 g18 r0 r1 r2 r9 a b c = sX_isOutside a b c := rfl
def offX (r0 r2 : Nat → Int32) : Int32 := if 5 < (if 0 ≤ r2 2 - r0 4 then r2 2 - r0 4 else 0 - (r2 2 - r0 4)) then 1 else if (if 0 ≤ r2 3 - r0 5 then r2 3 - r0 5 else 0 - (r2 3 - r0 5)) ≤ 40 then 0 else 1
def offM (r0 r2 : Nat → Int32) : Int32 := if 5 < r2 2 - r0 4 then 1 else if r2 2 - r0 4 < -5 then 1 else if 40 < r2 3 - r0 5 then 1 else if -40 ≤ r2 3 - r0 5 then 0 else 1
theorem offX_eq (g4 g5 g6 g7 g8 g9 g10 g11 g12 g13 g14 g15 g16 g17 : Int32) (r0 r1 r2 r3 : Nat → Int32) : sX_isFluidOff g4 g5 g6 g7 g8 g9 g10 g11 g12 g13 g14 g15 g16 g17 r0 r1 r2 r3 = offX r0 r2 := rfl
theorem offM_eq (g3 g4 g5 g6 g7 g8 g10 g11 g12 g13 g14 g15 g16 g17 g18 : Int32) (r0 r1 r2 r9 : Nat → Int32) : sM_off g3 g4 g5 g6 g7 g8 g10 g11 g12 g13 g14 g15 g16 g17 g18 r0 r1 r2 r9 = offM r0 r2 := rfl
theorem off_eq {r0 r2 : Nat → Int32} {a b c d : Nat} (h1 : r2 2 = nI a) (h2 : r0 4 = nI b) (h3 : r2 3 = nI c) (h4 : r0 5 = nI d) (ha : a < 2 ^ 30) (hb : b < 2 ^ 30) (hc : c < 2 ^ 30) (hd : d < 2 ^ 30) : offX r0 r2 = offM r0 r2 := by
  unfold offX offM
  rw [h1, h2, h3, h4]
  have e1 := pk_sub_toInt ha hb
  have e2 := pk_sub_toInt hb ha
  have e3 := pk_sub_toInt hc hd
  have e4 := pk_sub_toInt hd hc
  have n1 : 0 - (nI a - nI b) = nI b - nI a := by grind
  have n2 : 0 - (nI c - nI d) = nI d - nI c := by grind
  rw [n1, n2]
  have l0 : (0 : Int32).toInt = 0 := rfl
  have l5 : (5 : Int32).toInt = 5 := rfl
  have l40 : (40 : Int32).toInt = 40 := rfl
  have m5 : (-5 : Int32).toInt = -5 := rfl
  have m40 : (-40 : Int32).toInt = -40 := rfl
  by_cases p1 : (0 : Int32) ≤ nI a - nI b
  · by_cases p2 : (0 : Int32) ≤ nI c - nI d
    · rw [if_pos p1, if_pos p2]
      simp only [i_lt, i_le, e1, e2, e3, e4, l0, l5, l40, m5, m40] at p1 p2 ⊢
      repeat' split
      all_goals first | rfl | (exfalso; omega)
    · rw [if_pos p1, if_neg p2]
      simp only [i_lt, i_le, e1, e2, e3, e4, l0, l5, l40, m5, m40] at p1 p2 ⊢
      repeat' split
      all_goals first | rfl | (exfalso; omega)
  · by_cases p2 : (0 : Int32) ≤ nI c - nI d
    · rw [if_neg p1, if_pos p2]
      simp only [i_lt, i_le, e1, e2, e3, e4, l0, l5, l40, m5, m40] at p1 p2 ⊢
      repeat' split
      all_goals first | rfl | (exfalso; omega)
    · rw [if_neg p1, if_neg p2]
      simp only [i_lt, i_le, e1, e2, e3, e4, l0, l5, l40, m5, m40] at p1 p2 ⊢
      repeat' split
      all_goals first | rfl | (exfalso; omega)
theorem ct_eq (g4 g5 g6 g7 g8 g9 g10 g11 g12 g13 g14 g15 g16 g17 : Int32) (r0 r1 r2 r3 : Nat → Int32) : sX_countTicksInARow g4 g5 g6 g7 g8 g9 g10 g11 g12 g13 g14 g15 g16 g17 r0 r1 r2 r3 = (g4, g5, g6, g7, g8, g9, g10, g11, g12, g13, if offX r0 r2 = 0 then g14 + 1 else 0, if offX r0 r2 = 0 then 0 else g15 + 1, if onP g4 = 0 then 0 else if sX_isOutside (r2 0) (r0 6) (r0 7) = 0 then 0 else g16 + 1, if onP g4 = 0 then 0 else if sX_isOutside (r2 1) (r0 8) (r0 9) = 0 then 0 else g17 + 1, r0, r1, r2, r3) := by
  unfold sX_countTicksInARow bX_countTicksInARow_0
  rw [conn_eq, offX_eq]
  generalize sX_isOutside (r2 0) (r0 6) (r0 7) = o0
  generalize sX_isOutside (r2 1) (r0 8) (r0 9) = o1
  generalize offX r0 r2 = f
  generalize onP g4 = c
  simp only [bX_countTicksInARow_138, bX_countTicksInARow_132, bX_countTicksInARow_128, bX_countTicksInARow_119, bX_countTicksInARow_118, bX_countTicksInARow_109, bX_countTicksInARow_100, bX_countTicksInARow_99, bX_countTicksInARow_90, bX_countTicksInARow_86, bX_countTicksInARow_78, bX_countTicksInARow_77, bX_countTicksInARow_68, bX_countTicksInARow_64]
  by_cases h1 : c = 0 <;> by_cases h2 : o0 = 0 <;> by_cases h3 : o1 = 0 <;> by_cases h4 : f = 0 <;> simp only [h1, h2, h3, h4, if_true, if_false]
theorem cdM_eq (g3 g4 g5 g6 g7 g8 g10 g11 g12 g13 g14 g15 g16 g17 g18 : Int32) (r0 r1 r2 r9 : Nat → Int32) : bM_condition_44 g3 g4 g5 g6 g7 g8 g10 g11 g12 g13 g14 g15 g16 g17 g18 r0 r1 r2 r9 = (g3, g4, g5, g6, g7, g8, if onP g3 = 0 then g8 else if sX_isOutside (r2 0) (r0 6) (r0 7) = 0 then g8 else g10, if onP g3 = 0 then g8 else if sX_isOutside (r2 1) (r0 8) (r0 9) = 0 then g8 else g11, if offM r0 r2 = 0 then g8 else g12, if offM r0 r2 = 0 then g13 else g8, g14, g15, g16, g17, g18, r0, r1, r2, r9) := by
  simp only [bM_condition_146, bM_condition_135, bM_condition_128, bM_condition_120, bM_condition_93, bM_condition_86, bM_condition_78, bM_condition_51, bM_condition_44, onM_eq, outM_eq, offM_eq]
  by_cases h1 : onP g3 = 0 <;> by_cases h2 : sX_isOutside (r2 0) (r0 6) (r0 7) = 0 <;> by_cases h3 : sX_isOutside (r2 1) (r0 8) (r0 9) = 0 <;> by_cases h4 : offM r0 r2 = 0 <;> simp only [h1, h2, h3, h4, if_true, if_false]
theorem fM_fa (g3 g4 g5 g6 g7 g8 g10 g11 g12 g13 g14 g15 g16 g17 g18 : Int32) (r0 r1 r2 r9 : Nat → Int32) {i : Nat} (hi : i < 6) : sM_faulty g3 g4 g5 g6 g7 g8 g10 g11 g12 g13 g14 g15 g16 g17 g18 r0 r1 r2 r9 (nI i) = if 3 ≤ g8 - r9 i then 1 else 0 := by
  have hc : (nI i).toNatClampNeg = i := nI_clamp (by omega)
  have h1 : ¬ nI i < 0 := nI_pos (by omega)
  have h2 : ¬ 5 < nI i := by rw [show (5 : Int32) = nI 5 from rfl]; exact nI_nlt (by omega) (by decide)
  simp only [bM_faulty_28, bM_faulty_24, bM_faulty_9, bM_faulty_4, bM_faulty_0, sM_faulty, h1, h2, hc, if_false]
  by_cases h : g8 - r9 i < 3
  · have h3 : ¬ 3 ≤ g8 - r9 i := by rw [i_le]; rw [i_lt] at h; omega
    rw [if_pos h, if_neg h3]
  · have h3 : 3 ≤ g8 - r9 i := by rw [i_le]; rw [i_lt] at h; omega
    rw [if_neg h, if_pos h3]
theorem fM_1 (k : Nat) : k ≤ 6 → ∀ (g3 g4 g5 g6 g7 g8 g10 g11 g12 g13 g14 g15 g16 g17 g18 : Int32) (r0 r1 r2 r9 : Nat → Int32) (x1 : Int32), bM_conditionsNow_122 (k + 1) g3 g4 g5 g6 g7 g8 g10 g11 g12 g13 g14 g15 g16 g17 g18 r0 r1 r2 r9 x1 1 (nI (6 - k)) = bM_conditionsNow_152 g3 g4 g5 g6 g7 g8 g10 g11 g12 g13 g14 g15 g16 g17 g18 r0 r1 r2 r9 x1 1 := by
  induction k with
  | zero =>
    intros
    rw [bM_conditionsNow_122_s, if_pos (by decide +kernel)]
  | succ k ih =>
    intro hk g3 g4 g5 g6 g7 g8 g10 g11 g12 g13 g14 g15 g16 g17 g18 r0 r1 r2 r9 x1
    have hi : nI (6 - (k + 1)) + 1 = nI (6 - k) := bw_nx rfl hk
    rw [bM_conditionsNow_122_s, if_neg (by rw [show (6 : Int32) = nI 6 from rfl]; exact nI_ge (by omega) (by decide))]
    unfold bM_conditionsNow_128
    rw [if_neg (by decide)]
    unfold bM_conditionsNow_140 bM_conditionsNow_145
    rw [hi, ih (by omega)]
theorem fM_0 (k : Nat) : k ≤ 6 → ∀ (g3 g4 g5 g6 g7 g8 g10 g11 g12 g13 g14 g15 g16 g17 g18 : Int32) (r0 r1 r2 r9 : Nat → Int32) (x1 : Int32), bM_conditionsNow_122 (k + 1) g3 g4 g5 g6 g7 g8 g10 g11 g12 g13 g14 g15 g16 g17 g18 r0 r1 r2 r9 x1 0 (nI (6 - k)) = bM_conditionsNow_152 g3 g4 g5 g6 g7 g8 g10 g11 g12 g13 g14 g15 g16 g17 g18 r0 r1 r2 r9 x1 (if fB (fun j => g8 - r9 j) k = true then 1 else 0) := by
  induction k with
  | zero =>
    intros
    rw [bM_conditionsNow_122_s, if_pos (by decide +kernel)]
    rfl
  | succ k ih =>
    intro hk g3 g4 g5 g6 g7 g8 g10 g11 g12 g13 g14 g15 g16 g17 g18 r0 r1 r2 r9 x1
    have hi : nI (6 - (k + 1)) + 1 = nI (6 - k) := bw_nx rfl hk
    rw [bM_conditionsNow_122_s, if_neg (by rw [show (6 : Int32) = nI 6 from rfl]; exact nI_ge (by omega) (by decide))]
    unfold bM_conditionsNow_128
    rw [if_pos rfl]
    unfold bM_conditionsNow_132
    rw [fM_fa _ _ _ _ _ _ _ _ _ _ _ _ _ _ _ _ _ _ _ (show 6 - (k + 1) < 6 by omega)]
    by_cases h : 3 ≤ g8 - r9 (6 - (k + 1))
    · rw [if_pos h, if_neg (by decide)]
      unfold bM_conditionsNow_140 bM_conditionsNow_145
      have e : fB (fun j => g8 - r9 j) (k + 1) = true := by
        show (decide (3 ≤ g8 - r9 (6 - (k + 1))) || fB (fun j => g8 - r9 j) k) = true
        rw [decide_eq_true h]
        rfl
      rw [hi, fM_1 k (by omega), e]
      rfl
    · rw [if_neg h, if_pos rfl]
      unfold bM_conditionsNow_144 bM_conditionsNow_145
      have e : fB (fun j => g8 - r9 j) (k + 1) = fB (fun j => g8 - r9 j) k := by
        show (decide (3 ≤ g8 - r9 (6 - (k + 1))) || fB (fun j => g8 - r9 j) k) = _
        rw [decide_eq_false h]
        rfl
      rw [hi, ih (by omega), e]
theorem or6 {a b c d e f : Int32} (ha : a = 0 ∨ a = 1) (hb : b = 0 ∨ b = 2) (hc : c = 0 ∨ c = 4) (hd : d = 0 ∨ d = 8) (he : e = 0 ∨ e = 16) (hf : f = 0 ∨ f = 32) : (((((a ||| b) ||| c) ||| d) ||| e) ||| f) = a + b + c + d + e + f ∧ ∃ n, n < 64 ∧ a + b + c + d + e + f = nI n := by
  have key : (((((a ||| b) ||| c) ||| d) ||| e) ||| f) = a + b + c + d + e + f ∧ (a + b + c + d + e + f).toNatClampNeg < 64 ∧ a + b + c + d + e + f = nI (a + b + c + d + e + f).toNatClampNeg := by
    rcases ha with rfl | rfl <;> rcases hb with rfl | rfl <;> rcases hc with rfl | rfl <;> rcases hd with rfl | rfl <;> rcases he with rfl | rfl <;> rcases hf with rfl | rfl <;> decide +kernel
  exact ⟨key.1, _, key.2.1, key.2.2⟩
theorem ite2 {p : Prop} {h : Decidable p} {a b : Int32} : (if p then a else b) = a ∨ (if p then a else b) = b := by
  by_cases q : p
  · exact Or.inl (if_pos q)
  · exact Or.inr (if_neg q)
def t1 (g : Int32) : Int32 := if g < 30 then 0 else 1
def t2 (g : Int32) : Int32 := if g < 30 then 0 else 2
def t3 (g z : Int32) : Int32 := if onP g = 0 then 0 else if z = 1 then 4 else 0
def t4 (g z : Int32) : Int32 := if g = 3 then (if z = 1 then 8 else 0) else 0
def t5 (g : Int32) : Int32 := if g < 600 then 0 else 16
def t6 (b : Bool) : Int32 := if b = true then 32 else 0
theorem cnX_eq (g4 g5 g6 g7 g8 g9 g10 g11 g12 g13 g14 g15 g16 g17 : Int32) (r0 r1 r2 r3 : Nat → Int32) : sX_conditionsNow g4 g5 g6 g7 g8 g9 g10 g11 g12 g13 g14 g15 g16 g17 r0 r1 r2 r3 = (((((t1 g16 ||| t2 g17) ||| t3 g4 (r2 4)) ||| t4 g4 (r2 5)) ||| t5 g15) ||| t6 (fB r3 6)) := by
  unfold sX_conditionsNow
  have h1 : bX_conditionsNow_0 g4 g5 g6 g7 g8 g9 g10 g11 g12 g13 g14 g15 g16 g17 r0 r1 r2 r3 = bX_conditionsNow_14 g4 g5 g6 g7 g8 g9 g10 g11 g12 g13 g14 g15 g16 g17 r0 r1 r2 r3 (t1 g16) := by
    unfold bX_conditionsNow_0 t1
    split <;> rfl
  have h2 : ∀ y, bX_conditionsNow_14 g4 g5 g6 g7 g8 g9 g10 g11 g12 g13 g14 g15 g16 g17 r0 r1 r2 r3 y = bX_conditionsNow_28 g4 g5 g6 g7 g8 g9 g10 g11 g12 g13 g14 g15 g16 g17 r0 r1 r2 r3 (t2 g17) y := by
    intro y
    unfold bX_conditionsNow_14 t2
    split <;> rfl
  have h3 : ∀ y z, bX_conditionsNow_28 g4 g5 g6 g7 g8 g9 g10 g11 g12 g13 g14 g15 g16 g17 r0 r1 r2 r3 y z = bX_conditionsNow_51 g4 g5 g6 g7 g8 g9 g10 g11 g12 g13 g14 g15 g16 g17 r0 r1 r2 r3 (t3 g4 (r2 4)) (z ||| y) := by
    intro y z
    unfold bX_conditionsNow_28 t3
    rw [conn_eq]
    split
    · rfl
    · unfold bX_conditionsNow_36
      split <;> rfl
  have h4 : ∀ y z, bX_conditionsNow_51 g4 g5 g6 g7 g8 g9 g10 g11 g12 g13 g14 g15 g16 g17 r0 r1 r2 r3 y z = bX_conditionsNow_76 g4 g5 g6 g7 g8 g9 g10 g11 g12 g13 g14 g15 g16 g17 r0 r1 r2 r3 (t4 g4 (r2 5)) (z ||| y) := by
    intro y z
    unfold bX_conditionsNow_51 t4
    split
    · unfold bX_conditionsNow_60
      split <;> rfl
    · rfl
  have h5 : ∀ y z, bX_conditionsNow_76 g4 g5 g6 g7 g8 g9 g10 g11 g12 g13 g14 g15 g16 g17 r0 r1 r2 r3 y z = bX_conditionsNow_93 g4 g5 g6 g7 g8 g9 g10 g11 g12 g13 g14 g15 g16 g17 r0 r1 r2 r3 (t5 g15) (z ||| y) := by
    intro y z
    unfold bX_conditionsNow_76 t5
    split <;> rfl
  have h6 : ∀ y z, bX_conditionsNow_93 g4 g5 g6 g7 g8 g9 g10 g11 g12 g13 g14 g15 g16 g17 r0 r1 r2 r3 y z = (z ||| y) ||| t6 (fB r3 6) := by
    intro y z
    unfold bX_conditionsNow_93 t6
    rw [fX_eq]
    by_cases h : fB r3 6 = true
    · rw [if_pos h, if_pos h, if_neg (by decide)]
      rfl
    · rw [if_neg h, if_neg h, if_pos rfl]
      rfl
  rw [h1, h2, h3, h4, h5, h6]
theorem cnM_eq (g3 g4 g5 g6 g7 g8 g10 g11 g12 g13 g14 g15 g16 g17 g18 : Int32) (r0 r1 r2 r9 : Nat → Int32) : sM_conditionsNow g3 g4 g5 g6 g7 g8 g10 g11 g12 g13 g14 g15 g16 g17 g18 r0 r1 r2 r9 = t1 (g8 - g10) + t2 (g8 - g11) + t3 g3 (r2 4) + t4 g3 (r2 5) + t5 (g8 - g12) + t6 (fB (fun j => g8 - r9 j) 6) := by
  unfold sM_conditionsNow
  have z0 : ∀ a : Int32, a + 0 = a := fun a => by grind
  have h1 : bM_conditionsNow_0 g3 g4 g5 g6 g7 g8 g10 g11 g12 g13 g14 g15 g16 g17 g18 r0 r1 r2 r9 = bM_conditionsNow_19 g3 g4 g5 g6 g7 g8 g10 g11 g12 g13 g14 g15 g16 g17 g18 r0 r1 r2 r9 (t1 (g8 - g10)) := by
    unfold bM_conditionsNow_0 t1
    split <;> rfl
  have h2 : ∀ y, bM_conditionsNow_19 g3 g4 g5 g6 g7 g8 g10 g11 g12 g13 g14 g15 g16 g17 g18 r0 r1 r2 r9 y = bM_conditionsNow_41 g3 g4 g5 g6 g7 g8 g10 g11 g12 g13 g14 g15 g16 g17 g18 r0 r1 r2 r9 (y + t2 (g8 - g11)) := by
    intro y
    unfold bM_conditionsNow_19 t2
    split
    · rw [z0]
      rfl
    · rfl
  have h3 : ∀ y, bM_conditionsNow_41 g3 g4 g5 g6 g7 g8 g10 g11 g12 g13 g14 g15 g16 g17 g18 r0 r1 r2 r9 y = bM_conditionsNow_66 g3 g4 g5 g6 g7 g8 g10 g11 g12 g13 g14 g15 g16 g17 g18 r0 r1 r2 r9 (y + t3 g3 (r2 4)) := by
    intro y
    unfold bM_conditionsNow_41 t3
    rw [onM_eq]
    split
    · rw [z0]
      rfl
    · unfold bM_conditionsNow_49
      split
      · rfl
      · rw [z0]
        rfl
  have h4 : ∀ y, bM_conditionsNow_66 g3 g4 g5 g6 g7 g8 g10 g11 g12 g13 g14 g15 g16 g17 g18 r0 r1 r2 r9 y = bM_conditionsNow_93 g3 g4 g5 g6 g7 g8 g10 g11 g12 g13 g14 g15 g16 g17 g18 r0 r1 r2 r9 (y + t4 g3 (r2 5)) := by
    intro y
    unfold bM_conditionsNow_66 t4
    split
    · unfold bM_conditionsNow_75
      split
      · rfl
      · rw [z0]
        rfl
    · rw [z0]
      rfl
  have h5 : ∀ y, bM_conditionsNow_93 g3 g4 g5 g6 g7 g8 g10 g11 g12 g13 g14 g15 g16 g17 g18 r0 r1 r2 r9 y = bM_conditionsNow_117 g3 g4 g5 g6 g7 g8 g10 g11 g12 g13 g14 g15 g16 g17 g18 r0 r1 r2 r9 (y + t5 (g8 - g12)) := by
    intro y
    unfold bM_conditionsNow_93 t5
    split
    · rw [z0]
      rfl
    · rfl
  have h6 : ∀ y, bM_conditionsNow_117 g3 g4 g5 g6 g7 g8 g10 g11 g12 g13 g14 g15 g16 g17 g18 r0 r1 r2 r9 y = y + t6 (fB (fun j => g8 - r9 j) 6) := by
    intro y
    unfold bM_conditionsNow_117
    refine Eq.trans (fM_0 6 (Nat.le_refl _) g3 g4 g5 g6 g7 g8 g10 g11 g12 g13 g14 g15 g16 g17 g18 r0 r1 r2 r9 y) ?_
    unfold bM_conditionsNow_152 t6
    by_cases h : fB (fun j => g8 - r9 j) 6 = true
    · rw [if_pos h, if_pos h, if_neg (by decide)]
      rfl
    · rw [if_neg h, if_neg h, if_pos rfl, z0]
      rfl
  rw [h1, h2, h3, h4, h5, h6]
theorem t_ok (a b c d e f g : Int32) (z : Bool) : (((((t1 a ||| t2 b) ||| t3 c d) ||| t4 c e) ||| t5 f) ||| t6 z) = t1 a + t2 b + t3 c d + t4 c e + t5 f + t6 z ∧ ∃ n, n < 64 ∧ t1 a + t2 b + t3 c d + t4 c e + t5 f + t6 z = nI n := by
  refine or6 ite2 ite2 ?_ ?_ ite2 (ite2.symm)
  · unfold t3
    by_cases h : onP c = 0
    · exact Or.inl (if_pos h)
    · rw [if_neg h]
      exact ite2.symm
  · unfold t4
    by_cases h : c = 3
    · rw [if_pos h]
      exact ite2.symm
    · exact Or.inl (if_neg h)
