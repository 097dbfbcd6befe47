theorem inv_mono {N N' : Nat} {y : SM} (h : inv N y) (hle : N ≤ N') : inv N' y := by
  obtain ⟨p3, p4, p5, p6, p7, p8, p10, p11, p12, p13, p14, p15, p16, p17, p18, v0, v1, v2, v9⟩ := y
  obtain ⟨T, F, a, b, E, C, hT, h⟩ := h
  exact ⟨T, F, a, b, E, C, Nat.le_trans hT hle, h⟩
theorem ok_phase {g4 g5 g6 g7 g8 g9 g10 g11 g12 g13 g14 g15 g16 g17 : Int32} {r0 r1 r2 r3 : Nat → Int32} {p3 p4 p5 p6 p7 p8 p10 p11 p12 p13 p14 p15 p16 p17 p18 : Int32} {v0 v1 v2 v9 : Nat → Int32} {N : Nat} (hR : rel (g4, g5, g6, g7, g8, g9, g10, g11, g12, g13, g14, g15, g16, g17, r0, r1, r2, r3) (p3, p4, p5, p6, p7, p8, p10, p11, p12, p13, p14, p15, p16, p17, p18, v0, v1, v2, v9)) (hI : inv N (p3, p4, p5, p6, p7, p8, p10, p11, p12, p13, p14, p15, p16, p17, p18, v0, v1, v2, v9)) {r q : Int32} {u : SX} {w : SM} (h1 : r = sX_phase g4 g5 g6 g7 g8 g9 g10 g11 g12 g13 g14 g15 g16 g17 r0 r1 r2 r3 ∧ u = (g4, g5, g6, g7, g8, g9, g10, g11, g12, g13, g14, g15, g16, g17, r0, r1, r2, r3)) (h2 : q = sM_phase p3 p4 p5 p6 p7 p8 p10 p11 p12 p13 p14 p15 p16 p17 p18 v0 v1 v2 v9 ∧ w = (p3, p4, p5, p6, p7, p8, p10, p11, p12, p13, p14, p15, p16, p17, p18, v0, v1, v2, v9)) : r = q ∧ rel u w ∧ inv (N + 600) w := by
  obtain ⟨rfl, rfl⟩ := h1
  obtain ⟨rfl, rfl⟩ := h2
  refine ⟨?_, hR, inv_mono hI (by omega)⟩
  obtain ⟨rfl, rfl, rfl, rfl, rfl, rfl, rfl, rfl, rfl, rfl, rfl, rfl, rfl, rfl, rfl, rfl, rfl, hr3⟩ := hR
  rfl
theorem ok_alarms {g4 g5 g6 g7 g8 g9 g10 g11 g12 g13 g14 g15 g16 g17 : Int32} {r0 r1 r2 r3 : Nat → Int32} {p3 p4 p5 p6 p7 p8 p10 p11 p12 p13 p14 p15 p16 p17 p18 : Int32} {v0 v1 v2 v9 : Nat → Int32} {N : Nat} (hR : rel (g4, g5, g6, g7, g8, g9, g10, g11, g12, g13, g14, g15, g16, g17, r0, r1, r2, r3) (p3, p4, p5, p6, p7, p8, p10, p11, p12, p13, p14, p15, p16, p17, p18, v0, v1, v2, v9)) (hI : inv N (p3, p4, p5, p6, p7, p8, p10, p11, p12, p13, p14, p15, p16, p17, p18, v0, v1, v2, v9)) {r q : Int32} {u : SX} {w : SM} (h1 : r = sX_alarms g4 g5 g6 g7 g8 g9 g10 g11 g12 g13 g14 g15 g16 g17 r0 r1 r2 r3 ∧ u = (g4, g5, g6, g7, g8, g9, g10, g11, g12, g13, g14, g15, g16, g17, r0, r1, r2, r3)) (h2 : q = sM_alarms p3 p4 p5 p6 p7 p8 p10 p11 p12 p13 p14 p15 p16 p17 p18 v0 v1 v2 v9 ∧ w = (p3, p4, p5, p6, p7, p8, p10, p11, p12, p13, p14, p15, p16, p17, p18, v0, v1, v2, v9)) : r = q ∧ rel u w ∧ inv (N + 600) w := by
  obtain ⟨rfl, rfl⟩ := h1
  obtain ⟨rfl, rfl⟩ := h2
  refine ⟨?_, hR, inv_mono hI (by omega)⟩
  obtain ⟨rfl, rfl, rfl, rfl, rfl, rfl, rfl, rfl, rfl, rfl, rfl, rfl, rfl, rfl, rfl, rfl, rfl, hr3⟩ := hR
  rfl
theorem ok_conditions {g4 g5 g6 g7 g8 g9 g10 g11 g12 g13 g14 g15 g16 g17 : Int32} {r0 r1 r2 r3 : Nat → Int32} {p3 p4 p5 p6 p7 p8 p10 p11 p12 p13 p14 p15 p16 p17 p18 : Int32} {v0 v1 v2 v9 : Nat → Int32} {N : Nat} (hR : rel (g4, g5, g6, g7, g8, g9, g10, g11, g12, g13, g14, g15, g16, g17, r0, r1, r2, r3) (p3, p4, p5, p6, p7, p8, p10, p11, p12, p13, p14, p15, p16, p17, p18, v0, v1, v2, v9)) (hI : inv N (p3, p4, p5, p6, p7, p8, p10, p11, p12, p13, p14, p15, p16, p17, p18, v0, v1, v2, v9)) {r q : Int32} {u : SX} {w : SM} (h1 : r = sX_conditions g4 g5 g6 g7 g8 g9 g10 g11 g12 g13 g14 g15 g16 g17 r0 r1 r2 r3 ∧ u = (g4, g5, g6, g7, g8, g9, g10, g11, g12, g13, g14, g15, g16, g17, r0, r1, r2, r3)) (h2 : q = sM_conditions p3 p4 p5 p6 p7 p8 p10 p11 p12 p13 p14 p15 p16 p17 p18 v0 v1 v2 v9 ∧ w = (p3, p4, p5, p6, p7, p8, p10, p11, p12, p13, p14, p15, p16, p17, p18, v0, v1, v2, v9)) : r = q ∧ rel u w ∧ inv (N + 600) w := by
  obtain ⟨rfl, rfl⟩ := h1
  obtain ⟨rfl, rfl⟩ := h2
  refine ⟨?_, hR, inv_mono hI (by omega)⟩
  obtain ⟨rfl, rfl, rfl, rfl, rfl, rfl, rfl, rfl, rfl, rfl, rfl, rfl, rfl, rfl, rfl, rfl, rfl, hr3⟩ := hR
  rfl
theorem ok_outputs {g4 g5 g6 g7 g8 g9 g10 g11 g12 g13 g14 g15 g16 g17 : Int32} {r0 r1 r2 r3 : Nat → Int32} {p3 p4 p5 p6 p7 p8 p10 p11 p12 p13 p14 p15 p16 p17 p18 : Int32} {v0 v1 v2 v9 : Nat → Int32} {N : Nat} (hR : rel (g4, g5, g6, g7, g8, g9, g10, g11, g12, g13, g14, g15, g16, g17, r0, r1, r2, r3) (p3, p4, p5, p6, p7, p8, p10, p11, p12, p13, p14, p15, p16, p17, p18, v0, v1, v2, v9)) (hI : inv N (p3, p4, p5, p6, p7, p8, p10, p11, p12, p13, p14, p15, p16, p17, p18, v0, v1, v2, v9)) {r q : Int32} {u : SX} {w : SM} (h1 : r = sX_outputs g4 g5 g6 g7 g8 g9 g10 g11 g12 g13 g14 g15 g16 g17 r0 r1 r2 r3 ∧ u = (g4, g5, g6, g7, g8, g9, g10, g11, g12, g13, g14, g15, g16, g17, r0, r1, r2, r3)) (h2 : q = sM_outputs p3 p4 p5 p6 p7 p8 p10 p11 p12 p13 p14 p15 p16 p17 p18 v0 v1 v2 v9 ∧ w = (p3, p4, p5, p6, p7, p8, p10, p11, p12, p13, p14, p15, p16, p17, p18, v0, v1, v2, v9)) : r = q ∧ rel u w ∧ inv (N + 600) w := by
  obtain ⟨rfl, rfl⟩ := h1
  obtain ⟨rfl, rfl⟩ := h2
  refine ⟨?_, hR, inv_mono hI (by omega)⟩
  obtain ⟨rfl, rfl, rfl, rfl, rfl, rfl, rfl, rfl, rfl, rfl, rfl, rfl, rfl, rfl, rfl, rfl, rfl, hr3⟩ := hR
  rfl
theorem ok_effective {g4 g5 g6 g7 g8 g9 g10 g11 g12 g13 g14 g15 g16 g17 : Int32} {r0 r1 r2 r3 : Nat → Int32} {p3 p4 p5 p6 p7 p8 p10 p11 p12 p13 p14 p15 p16 p17 p18 : Int32} {v0 v1 v2 v9 : Nat → Int32} {N : Nat} (hR : rel (g4, g5, g6, g7, g8, g9, g10, g11, g12, g13, g14, g15, g16, g17, r0, r1, r2, r3) (p3, p4, p5, p6, p7, p8, p10, p11, p12, p13, p14, p15, p16, p17, p18, v0, v1, v2, v9)) (hI : inv N (p3, p4, p5, p6, p7, p8, p10, p11, p12, p13, p14, p15, p16, p17, p18, v0, v1, v2, v9)) {r q : Int32} {u : SX} {w : SM} (h1 : r = sX_effective g4 g5 g6 g7 g8 g9 g10 g11 g12 g13 g14 g15 g16 g17 r0 r1 r2 r3 ∧ u = (g4, g5, g6, g7, g8, g9, g10, g11, g12, g13, g14, g15, g16, g17, r0, r1, r2, r3)) (h2 : q = sM_effective p3 p4 p5 p6 p7 p8 p10 p11 p12 p13 p14 p15 p16 p17 p18 v0 v1 v2 v9 ∧ w = (p3, p4, p5, p6, p7, p8, p10, p11, p12, p13, p14, p15, p16, p17, p18, v0, v1, v2, v9)) : r = q ∧ rel u w ∧ inv (N + 600) w := by
  obtain ⟨rfl, rfl⟩ := h1
  obtain ⟨rfl, rfl⟩ := h2
  refine ⟨?_, hR, inv_mono hI (by omega)⟩
  obtain ⟨rfl, rfl, rfl, rfl, rfl, rfl, rfl, rfl, rfl, rfl, rfl, rfl, rfl, rfl, rfl, rfl, rfl, hr3⟩ := hR
  rfl
theorem ok_accounted {g4 g5 g6 g7 g8 g9 g10 g11 g12 g13 g14 g15 g16 g17 : Int32} {r0 r1 r2 r3 : Nat → Int32} {p3 p4 p5 p6 p7 p8 p10 p11 p12 p13 p14 p15 p16 p17 p18 : Int32} {v0 v1 v2 v9 : Nat → Int32} {N : Nat} (hR : rel (g4, g5, g6, g7, g8, g9, g10, g11, g12, g13, g14, g15, g16, g17, r0, r1, r2, r3) (p3, p4, p5, p6, p7, p8, p10, p11, p12, p13, p14, p15, p16, p17, p18, v0, v1, v2, v9)) (hI : inv N (p3, p4, p5, p6, p7, p8, p10, p11, p12, p13, p14, p15, p16, p17, p18, v0, v1, v2, v9)) {r q : Int32} {u : SX} {w : SM} (h1 : r = sX_accounted g4 g5 g6 g7 g8 g9 g10 g11 g12 g13 g14 g15 g16 g17 r0 r1 r2 r3 ∧ u = (g4, g5, g6, g7, g8, g9, g10, g11, g12, g13, g14, g15, g16, g17, r0, r1, r2, r3)) (h2 : q = sM_accounted p3 p4 p5 p6 p7 p8 p10 p11 p12 p13 p14 p15 p16 p17 p18 v0 v1 v2 v9 ∧ w = (p3, p4, p5, p6, p7, p8, p10, p11, p12, p13, p14, p15, p16, p17, p18, v0, v1, v2, v9)) : r = q ∧ rel u w ∧ inv (N + 600) w := by
  obtain ⟨rfl, rfl⟩ := h1
  obtain ⟨rfl, rfl⟩ := h2
  refine ⟨?_, hR, inv_mono hI (by omega)⟩
  obtain ⟨rfl, rfl, rfl, rfl, rfl, rfl, rfl, rfl, rfl, rfl, rfl, rfl, rfl, rfl, rfl, rfl, rfl, hr3⟩ := hR
  rfl
theorem ok_strokes {g4 g5 g6 g7 g8 g9 g10 g11 g12 g13 g14 g15 g16 g17 : Int32} {r0 r1 r2 r3 : Nat → Int32} {p3 p4 p5 p6 p7 p8 p10 p11 p12 p13 p14 p15 p16 p17 p18 : Int32} {v0 v1 v2 v9 : Nat → Int32} {N : Nat} (hR : rel (g4, g5, g6, g7, g8, g9, g10, g11, g12, g13, g14, g15, g16, g17, r0, r1, r2, r3) (p3, p4, p5, p6, p7, p8, p10, p11, p12, p13, p14, p15, p16, p17, p18, v0, v1, v2, v9)) (hI : inv N (p3, p4, p5, p6, p7, p8, p10, p11, p12, p13, p14, p15, p16, p17, p18, v0, v1, v2, v9)) {r q : Int32} {u : SX} {w : SM} (h1 : r = sX_strokes g4 g5 g6 g7 g8 g9 g10 g11 g12 g13 g14 g15 g16 g17 r0 r1 r2 r3 ∧ u = (g4, g5, g6, g7, g8, g9, g10, g11, g12, g13, g14, g15, g16, g17, r0, r1, r2, r3)) (h2 : q = sM_strokes p3 p4 p5 p6 p7 p8 p10 p11 p12 p13 p14 p15 p16 p17 p18 v0 v1 v2 v9 ∧ w = (p3, p4, p5, p6, p7, p8, p10, p11, p12, p13, p14, p15, p16, p17, p18, v0, v1, v2, v9)) : r = q ∧ rel u w ∧ inv (N + 600) w := by
  obtain ⟨rfl, rfl⟩ := h1
  obtain ⟨rfl, rfl⟩ := h2
  refine ⟨?_, hR, inv_mono hI (by omega)⟩
  obtain ⟨rfl, rfl, rfl, rfl, rfl, rfl, rfl, rfl, rfl, rfl, rfl, rfl, rfl, rfl, rfl, rfl, rfl, hr3⟩ := hR
  rfl
theorem ok_trips {g4 g5 g6 g7 g8 g9 g10 g11 g12 g13 g14 g15 g16 g17 : Int32} {r0 r1 r2 r3 : Nat → Int32} {p3 p4 p5 p6 p7 p8 p10 p11 p12 p13 p14 p15 p16 p17 p18 : Int32} {v0 v1 v2 v9 : Nat → Int32} {N : Nat} (hR : rel (g4, g5, g6, g7, g8, g9, g10, g11, g12, g13, g14, g15, g16, g17, r0, r1, r2, r3) (p3, p4, p5, p6, p7, p8, p10, p11, p12, p13, p14, p15, p16, p17, p18, v0, v1, v2, v9)) (hI : inv N (p3, p4, p5, p6, p7, p8, p10, p11, p12, p13, p14, p15, p16, p17, p18, v0, v1, v2, v9)) {r q : Int32} {u : SX} {w : SM} (h1 : r = sX_trips g4 g5 g6 g7 g8 g9 g10 g11 g12 g13 g14 g15 g16 g17 r0 r1 r2 r3 ∧ u = (g4, g5, g6, g7, g8, g9, g10, g11, g12, g13, g14, g15, g16, g17, r0, r1, r2, r3)) (h2 : q = sM_trips p3 p4 p5 p6 p7 p8 p10 p11 p12 p13 p14 p15 p16 p17 p18 v0 v1 v2 v9 ∧ w = (p3, p4, p5, p6, p7, p8, p10, p11, p12, p13, p14, p15, p16, p17, p18, v0, v1, v2, v9)) : r = q ∧ rel u w ∧ inv (N + 600) w := by
  obtain ⟨rfl, rfl⟩ := h1
  obtain ⟨rfl, rfl⟩ := h2
  refine ⟨?_, hR, inv_mono hI (by omega)⟩
  obtain ⟨rfl, rfl, rfl, rfl, rfl, rfl, rfl, rfl, rfl, rfl, rfl, rfl, rfl, rfl, rfl, rfl, rfl, hr3⟩ := hR
  rfl
theorem ok_counted {g4 g5 g6 g7 g8 g9 g10 g11 g12 g13 g14 g15 g16 g17 : Int32} {r0 r1 r2 r3 : Nat → Int32} {p3 p4 p5 p6 p7 p8 p10 p11 p12 p13 p14 p15 p16 p17 p18 : Int32} {v0 v1 v2 v9 : Nat → Int32} {N : Nat} (hR : rel (g4, g5, g6, g7, g8, g9, g10, g11, g12, g13, g14, g15, g16, g17, r0, r1, r2, r3) (p3, p4, p5, p6, p7, p8, p10, p11, p12, p13, p14, p15, p16, p17, p18, v0, v1, v2, v9)) (hI : inv N (p3, p4, p5, p6, p7, p8, p10, p11, p12, p13, p14, p15, p16, p17, p18, v0, v1, v2, v9)) {r q : Int32} {u : SX} {w : SM} (h1 : r = sX_counted g4 g5 g6 g7 g8 g9 g10 g11 g12 g13 g14 g15 g16 g17 r0 r1 r2 r3 ∧ u = (g4, g5, g6, g7, g8, g9, g10, g11, g12, g13, g14, g15, g16, g17, r0, r1, r2, r3)) (h2 : q = sM_counted p3 p4 p5 p6 p7 p8 p10 p11 p12 p13 p14 p15 p16 p17 p18 v0 v1 v2 v9 ∧ w = (p3, p4, p5, p6, p7, p8, p10, p11, p12, p13, p14, p15, p16, p17, p18, v0, v1, v2, v9)) : r = q ∧ rel u w ∧ inv (N + 600) w := by
  obtain ⟨rfl, rfl⟩ := h1
  obtain ⟨rfl, rfl⟩ := h2
  refine ⟨?_, hR, inv_mono hI (by omega)⟩
  obtain ⟨rfl, rfl, rfl, rfl, rfl, rfl, rfl, rfl, rfl, rfl, rfl, rfl, rfl, rfl, rfl, rfl, rfl, hr3⟩ := hR
  rfl
theorem ok_steady {g4 g5 g6 g7 g8 g9 g10 g11 g12 g13 g14 g15 g16 g17 : Int32} {r0 r1 r2 r3 : Nat → Int32} {p3 p4 p5 p6 p7 p8 p10 p11 p12 p13 p14 p15 p16 p17 p18 : Int32} {v0 v1 v2 v9 : Nat → Int32} {N : Nat} (hR : rel (g4, g5, g6, g7, g8, g9, g10, g11, g12, g13, g14, g15, g16, g17, r0, r1, r2, r3) (p3, p4, p5, p6, p7, p8, p10, p11, p12, p13, p14, p15, p16, p17, p18, v0, v1, v2, v9)) (hI : inv N (p3, p4, p5, p6, p7, p8, p10, p11, p12, p13, p14, p15, p16, p17, p18, v0, v1, v2, v9)) {r q : Int32} {u : SX} {w : SM} (h1 : r = sX_steady g4 g5 g6 g7 g8 g9 g10 g11 g12 g13 g14 g15 g16 g17 r0 r1 r2 r3 ∧ u = (g4, g5, g6, g7, g8, g9, g10, g11, g12, g13, g14, g15, g16, g17, r0, r1, r2, r3)) (h2 : q = sM_steady p3 p4 p5 p6 p7 p8 p10 p11 p12 p13 p14 p15 p16 p17 p18 v0 v1 v2 v9 ∧ w = (p3, p4, p5, p6, p7, p8, p10, p11, p12, p13, p14, p15, p16, p17, p18, v0, v1, v2, v9)) : r = q ∧ rel u w ∧ inv (N + 600) w := by
  obtain ⟨rfl, rfl⟩ := h1
  obtain ⟨rfl, rfl⟩ := h2
  refine ⟨?_, hR, inv_mono hI (by omega)⟩
  obtain ⟨rfl, rfl, rfl, rfl, rfl, rfl, rfl, rfl, rfl, rfl, rfl, rfl, rfl, rfl, rfl, rfl, rfl, hr3⟩ := hR
  rfl
theorem isP (k : Int32) : sX_isParameter k = if k < 0 then 0 else if k ≤ 9 then 1 else 0 := by
  simp only [bX_isParameter_14, bX_isParameter_10, bX_isParameter_4, bX_isParameter_0, sX_isParameter]
  by_cases h1 : k < 0
  · rw [if_pos h1, if_pos h1]
  · rw [if_neg h1, if_neg h1]
    by_cases h2 : (10 : Int32) ≤ k
    · rw [if_pos h2, if_neg (by rw [i_le, show (9 : Int32).toInt = 9 from rfl]; rw [i_le, show (10 : Int32).toInt = 10 from rfl] at h2; omega)]
    · rw [if_neg h2, if_pos (by rw [i_le, show (9 : Int32).toInt = 9 from rfl]; rw [i_le, show (10 : Int32).toInt = 10 from rfl] at h2; omega)]
theorem isS (k : Int32) : sX_isSensor k = if k < 0 then 0 else if k ≤ 5 then 1 else 0 := by
  simp only [bX_isSensor_14, bX_isSensor_10, bX_isSensor_4, bX_isSensor_0, sX_isSensor]
  by_cases h1 : k < 0
  · rw [if_pos h1, if_pos h1]
  · rw [if_neg h1, if_neg h1]
    by_cases h2 : (6 : Int32) ≤ k
    · rw [if_pos h2, if_neg (by rw [i_le, show (5 : Int32).toInt = 5 from rfl]; rw [i_le, show (6 : Int32).toInt = 6 from rfl] at h2; omega)]
    · rw [if_neg h2, if_pos (by rw [i_le, show (5 : Int32).toInt = 5 from rfl]; rw [i_le, show (6 : Int32).toInt = 6 from rfl] at h2; omega)]
theorem ok_parameter {g4 g5 g6 g7 g8 g9 g10 g11 g12 g13 g14 g15 g16 g17 : Int32} {r0 r1 r2 r3 : Nat → Int32} {p3 p4 p5 p6 p7 p8 p10 p11 p12 p13 p14 p15 p16 p17 p18 : Int32} {v0 v1 v2 v9 : Nat → Int32} {N : Nat} {k : Int32} (hR : rel (g4, g5, g6, g7, g8, g9, g10, g11, g12, g13, g14, g15, g16, g17, r0, r1, r2, r3) (p3, p4, p5, p6, p7, p8, p10, p11, p12, p13, p14, p15, p16, p17, p18, v0, v1, v2, v9)) (hI : inv N (p3, p4, p5, p6, p7, p8, p10, p11, p12, p13, p14, p15, p16, p17, p18, v0, v1, v2, v9)) {r q : Int32} {u : SX} {w : SM} (h1 : r = sX_parameter g4 g5 g6 g7 g8 g9 g10 g11 g12 g13 g14 g15 g16 g17 r0 r1 r2 r3 k ∧ u = (g4, g5, g6, g7, g8, g9, g10, g11, g12, g13, g14, g15, g16, g17, r0, r1, r2, r3)) (h2 : q = sM_parameter p3 p4 p5 p6 p7 p8 p10 p11 p12 p13 p14 p15 p16 p17 p18 v0 v1 v2 v9 k ∧ w = (p3, p4, p5, p6, p7, p8, p10, p11, p12, p13, p14, p15, p16, p17, p18, v0, v1, v2, v9)) : r = q ∧ rel u w ∧ inv (N + 600) w := by
  obtain ⟨rfl, rfl⟩ := h1
  obtain ⟨rfl, rfl⟩ := h2
  refine ⟨?_, hR, inv_mono hI (by omega)⟩
  obtain ⟨rfl, rfl, rfl, rfl, rfl, rfl, rfl, rfl, rfl, rfl, rfl, rfl, rfl, rfl, rfl, rfl, rfl, hr3⟩ := hR
  simp only [bX_parameter_16, bX_parameter_7, bX_parameter_0, sX_parameter, bM_parameter_14, bM_parameter_10, bM_parameter_4, bM_parameter_0, sM_parameter, isP]
  by_cases z1 : k < 0
  · simp [z1]
  · by_cases z2 : k ≤ 9
    · simp [z1, z2]
    · simp [z1, z2]
theorem ok_conditioned {g4 g5 g6 g7 g8 g9 g10 g11 g12 g13 g14 g15 g16 g17 : Int32} {r0 r1 r2 r3 : Nat → Int32} {p3 p4 p5 p6 p7 p8 p10 p11 p12 p13 p14 p15 p16 p17 p18 : Int32} {v0 v1 v2 v9 : Nat → Int32} {N : Nat} {k : Int32} (hR : rel (g4, g5, g6, g7, g8, g9, g10, g11, g12, g13, g14, g15, g16, g17, r0, r1, r2, r3) (p3, p4, p5, p6, p7, p8, p10, p11, p12, p13, p14, p15, p16, p17, p18, v0, v1, v2, v9)) (hI : inv N (p3, p4, p5, p6, p7, p8, p10, p11, p12, p13, p14, p15, p16, p17, p18, v0, v1, v2, v9)) {r q : Int32} {u : SX} {w : SM} (h1 : r = sX_conditioned g4 g5 g6 g7 g8 g9 g10 g11 g12 g13 g14 g15 g16 g17 r0 r1 r2 r3 k ∧ u = (g4, g5, g6, g7, g8, g9, g10, g11, g12, g13, g14, g15, g16, g17, r0, r1, r2, r3)) (h2 : q = sM_conditioned p3 p4 p5 p6 p7 p8 p10 p11 p12 p13 p14 p15 p16 p17 p18 v0 v1 v2 v9 k ∧ w = (p3, p4, p5, p6, p7, p8, p10, p11, p12, p13, p14, p15, p16, p17, p18, v0, v1, v2, v9)) : r = q ∧ rel u w ∧ inv (N + 600) w := by
  obtain ⟨rfl, rfl⟩ := h1
  obtain ⟨rfl, rfl⟩ := h2
  refine ⟨?_, hR, inv_mono hI (by omega)⟩
  obtain ⟨rfl, rfl, rfl, rfl, rfl, rfl, rfl, rfl, rfl, rfl, rfl, rfl, rfl, rfl, rfl, rfl, rfl, hr3⟩ := hR
  simp only [bX_conditioned_16, bX_conditioned_7, bX_conditioned_0, sX_conditioned, bM_conditioned_13, bM_conditioned_9, bM_conditioned_4, bM_conditioned_0, sM_conditioned, isS]
  by_cases z1 : k < 0
  · simp [z1]
  · by_cases z2 : k ≤ 5
    · simp [z1, z2]
    · simp [z1, z2]
theorem k5 {k : Int32} (z1 : ¬ k < 0) (z2 : k ≤ 5) : k.toNatClampNeg < 6 := by
  have h := in5l z1 z2
  exact Nat.not_le.mp (fun q => h (Or.inr q))
theorem ok_faulty {g4 g5 g6 g7 g8 g9 g10 g11 g12 g13 g14 g15 g16 g17 : Int32} {r0 r1 r2 r3 : Nat → Int32} {p3 p4 p5 p6 p7 p8 p10 p11 p12 p13 p14 p15 p16 p17 p18 : Int32} {v0 v1 v2 v9 : Nat → Int32} {N : Nat} {k : Int32} (hR : rel (g4, g5, g6, g7, g8, g9, g10, g11, g12, g13, g14, g15, g16, g17, r0, r1, r2, r3) (p3, p4, p5, p6, p7, p8, p10, p11, p12, p13, p14, p15, p16, p17, p18, v0, v1, v2, v9)) (hI : inv N (p3, p4, p5, p6, p7, p8, p10, p11, p12, p13, p14, p15, p16, p17, p18, v0, v1, v2, v9)) {r q : Int32} {u : SX} {w : SM} (h1 : r = sX_faulty g4 g5 g6 g7 g8 g9 g10 g11 g12 g13 g14 g15 g16 g17 r0 r1 r2 r3 k ∧ u = (g4, g5, g6, g7, g8, g9, g10, g11, g12, g13, g14, g15, g16, g17, r0, r1, r2, r3)) (h2 : q = sM_faulty p3 p4 p5 p6 p7 p8 p10 p11 p12 p13 p14 p15 p16 p17 p18 v0 v1 v2 v9 k ∧ w = (p3, p4, p5, p6, p7, p8, p10, p11, p12, p13, p14, p15, p16, p17, p18, v0, v1, v2, v9)) : r = q ∧ rel u w ∧ inv (N + 600) w := by
  obtain ⟨rfl, rfl⟩ := h1
  obtain ⟨rfl, rfl⟩ := h2
  refine ⟨?_, hR, inv_mono hI (by omega)⟩
  obtain ⟨rfl, rfl, rfl, rfl, rfl, rfl, rfl, rfl, rfl, rfl, rfl, rfl, rfl, rfl, rfl, rfl, rfl, hr3⟩ := hR
  simp only [bX_faulty_21, bX_faulty_17, bX_faulty_7, bX_faulty_0, sX_faulty, bM_faulty_28, bM_faulty_24, bM_faulty_9, bM_faulty_4, bM_faulty_0, sM_faulty, isS]
  by_cases z1 : k < 0
  · simp [z1]
  · by_cases z2 : k ≤ 5
    · have z3 : ¬ 5 < k := by rw [i_lt]; rw [i_le] at z2; omega
      simp only [z1, z2, z3, if_true, if_false]
      rw [hr3 _ (k5 z1 z2), if_neg (by decide)]
    · have z3 : 5 < k := by rw [i_lt]; rw [i_le] at z2; omega
      simp [z1, z2, z3]
theorem ok_sense {g4 g5 g6 g7 g8 g9 g10 g11 g12 g13 g14 g15 g16 g17 : Int32} {r0 r1 r2 r3 : Nat → Int32} {p3 p4 p5 p6 p7 p8 p10 p11 p12 p13 p14 p15 p16 p17 p18 : Int32} {v0 v1 v2 v9 : Nat → Int32} {N : Nat} {k v : Int32} (hR : rel (g4, g5, g6, g7, g8, g9, g10, g11, g12, g13, g14, g15, g16, g17, r0, r1, r2, r3) (p3, p4, p5, p6, p7, p8, p10, p11, p12, p13, p14, p15, p16, p17, p18, v0, v1, v2, v9)) (hI : inv N (p3, p4, p5, p6, p7, p8, p10, p11, p12, p13, p14, p15, p16, p17, p18, v0, v1, v2, v9)) {r q : Int32} {u : SX} {w : SM} (h1 : (r, u) = sX_sense g4 g5 g6 g7 g8 g9 g10 g11 g12 g13 g14 g15 g16 g17 r0 r1 r2 r3 k v) (h2 : (q, w) = sM_sense p3 p4 p5 p6 p7 p8 p10 p11 p12 p13 p14 p15 p16 p17 p18 v0 v1 v2 v9 k v) : r = q ∧ rel u w ∧ inv (N + 600) w := by
  unfold sX_sense bX_sense_0 at h1
  unfold sM_sense bM_sense_0 at h2
  rw [isS] at h1
  by_cases z1 : k < 0
  · rw [if_pos z1, if_pos rfl] at h1
    rw [if_pos z1] at h2
    unfold bX_sense_7 at h1
    unfold bM_sense_9 at h2
    obtain ⟨rfl, rfl⟩ := Prod.mk.inj h1
    obtain ⟨rfl, rfl⟩ := Prod.mk.inj h2
    exact ⟨rfl, hR, inv_mono hI (by omega)⟩
  · rw [if_neg z1] at h1 h2
    unfold bM_sense_4 at h2
    by_cases z2 : k ≤ 5
    · rw [if_pos z2, if_neg (by decide)] at h1
      rw [if_pos z2] at h2
      unfold bX_sense_9 at h1
      unfold bM_sense_11 at h2
      obtain ⟨rfl, rfl⟩ := Prod.mk.inj h1
      obtain ⟨rfl, rfl⟩ := Prod.mk.inj h2
      obtain ⟨e1, e2, e3, e4, e5, e6, e7, e8, e9, e10, e11, e12, e13, e14, e15, e16, e17, hr3⟩ := hR
      obtain ⟨T, F, a, b, E, C, hT, h⟩ := hI
      exact ⟨rfl, ⟨e1, e2, e3, e4, e5, e6, e7, e8, e9, e10, e11, e12, e13, e14, e15, by rw [e16], e17, hr3⟩, ⟨T, F, a, b, E, C, by omega, h⟩⟩
    · rw [if_neg z2, if_pos rfl] at h1
      rw [if_neg z2] at h2
      unfold bX_sense_7 at h1
      unfold bM_sense_9 at h2
      obtain ⟨rfl, rfl⟩ := Prod.mk.inj h1
      obtain ⟨rfl, rfl⟩ := Prod.mk.inj h2
      exact ⟨rfl, hR, inv_mono hI (by omega)⟩
theorem tab_ok : ∀ j, j < 10 → sM_least (nI j) = tPL j ∧ sM_most (nI j) = tPG j := by decide +kernel
theorem ok_set {g4 g5 g6 g7 g8 g9 g10 g11 g12 g13 g14 g15 g16 g17 : Int32} {r0 r1 r2 r3 : Nat → Int32} {p3 p4 p5 p6 p7 p8 p10 p11 p12 p13 p14 p15 p16 p17 p18 : Int32} {v0 v1 v2 v9 : Nat → Int32} {N : Nat} {k v : Int32} (hR : rel (g4, g5, g6, g7, g8, g9, g10, g11, g12, g13, g14, g15, g16, g17, r0, r1, r2, r3) (p3, p4, p5, p6, p7, p8, p10, p11, p12, p13, p14, p15, p16, p17, p18, v0, v1, v2, v9)) (hI : inv N (p3, p4, p5, p6, p7, p8, p10, p11, p12, p13, p14, p15, p16, p17, p18, v0, v1, v2, v9)) {r q : Int32} {u : SX} {w : SM} (h1 : (r, u) = sX_set g4 g5 g6 g7 g8 g9 g10 g11 g12 g13 g14 g15 g16 g17 r0 r1 r2 r3 k v) (h2 : (q, w) = sM_set p3 p4 p5 p6 p7 p8 p10 p11 p12 p13 p14 p15 p16 p17 p18 v0 v1 v2 v9 k v) : r = q ∧ rel u w ∧ inv (N + 600) w := by
  have he : g4 = p3 := hR.1
  subst he
  have no : (r, u) = bX_set_31 g4 g5 g6 g7 g8 g9 g10 g11 g12 g13 g14 g15 g16 g17 r0 r1 r2 r3 → (q, w) = bM_set_33 g4 p4 p5 p6 p7 p8 p10 p11 p12 p13 p14 p15 p16 p17 p18 v0 v1 v2 v9 → r = q ∧ rel u w ∧ inv (N + 600) w := by
    intro h1 h2
    unfold bX_set_31 at h1
    unfold bM_set_33 at h2
    obtain ⟨rfl, rfl⟩ := Prod.mk.inj h1
    obtain ⟨rfl, rfl⟩ := Prod.mk.inj h2
    exact ⟨rfl, hR, inv_mono hI (by omega)⟩
  unfold sX_set bX_set_0 at h1
  unfold sM_set bM_set_0 at h2
  rw [isP] at h1
  by_cases z1 : k < 0
  · rw [if_pos z1, if_pos rfl] at h1
    rw [if_pos z1] at h2
    exact no h1 h2
  · rw [if_neg z1] at h1 h2
    unfold bM_set_4 at h2
    by_cases z2 : k ≤ 9
    · have z3 : ¬ 9 < k := by rw [i_lt]; rw [i_le] at z2; omega
      rw [if_pos z2, if_neg (by decide)] at h1
      rw [if_neg z3] at h2
      unfold bX_set_7 at h1
      unfold bM_set_10 at h2
      by_cases z4 : g4 = 0
      · rw [if_pos z4] at h1 h2
        unfold bX_set_14 at h1
        unfold bM_set_17 at h2
        obtain ⟨j, hj, rfl⟩ := vp_in_of (in9l z1 z2) (by decide)
        have hcl : (nI j).toNatClampNeg = j := nI_clamp (by omega)
        rw [out_eq, hcl] at h1
        rw [(tab_ok j hj).1] at h2
        by_cases z5 : v < tPL j
        · rw [if_pos (Or.inl z5), if_neg (by decide)] at h1
          rw [if_pos z5] at h2
          exact no h1 h2
        · rw [if_neg z5] at h2
          unfold bM_set_25 at h2
          rw [(tab_ok j hj).2] at h2
          by_cases z6 : v ≤ tPG j
          · have z7 : ¬ tPG j < v := by rw [i_lt]; rw [i_le] at z6; omega
            rw [if_neg (show ¬ (v < tPL j ∨ tPG j < v) from fun q => q.elim z5 z7), if_pos rfl] at h1
            rw [if_pos z6] at h2
            unfold bX_set_33 at h1
            unfold bM_set_35 at h2
            rw [hcl] at h1 h2
            obtain ⟨rfl, rfl⟩ := Prod.mk.inj h1
            obtain ⟨rfl, rfl⟩ := Prod.mk.inj h2
            obtain ⟨e1, e2, e3, e4, e5, e6, e7, e8, e9, e10, e11, e12, e13, e14, e15, e16, e17, hr3⟩ := hR
            refine ⟨rfl, ⟨rfl, e2, e3, e4, e5, e6, e7, e8, e9, e10, e11, e12, e13, e14, by rw [e15], e16, e17, hr3⟩, ?_⟩
            obtain ⟨T, F, a, b, E, C, hT, hF, f3, f8, ha, f12, hb, f13, hE, f14, hC, f15, g4', g5', g7', hv, hs, hE3⟩ := hI
            refine ⟨T, 0, a, b, E, C, by omega, by omega, z4, f8, ha, f12, hb, f13, hE, f14, hC, f15, g4', g5', g7', fun i hi => ?_, hs, fun q => absurd q (by decide)⟩
            by_cases hij : i = j
            · subst hij
              rw [pk_us]
              exact ⟨by rw [i_le]; rw [i_lt] at z5; omega, z6⟩
            · rw [pk_un hij]
              exact hv i hi
          · have z7 : tPG j < v := by rw [i_lt]; rw [i_le] at z6; omega
            rw [if_pos (Or.inr z7), if_neg (by decide)] at h1
            rw [if_neg z6] at h2
            exact no h1 h2
      · rw [if_neg z4] at h1 h2
        exact no h1 h2
    · have z3 : 9 < k := by rw [i_lt]; rw [i_le] at z2; omega
      rw [if_neg z2, if_pos rfl] at h1
      rw [if_pos z3] at h2
      exact no h1 h2
theorem and64 {a b : Int32} (ha : ∃ k, k < 64 ∧ a = nI k) (hb : ∃ k, k < 64 ∧ b = nI k) : ∃ k, k < 64 ∧ a &&& b = nI k := by
  obtain ⟨i, hi, rfl⟩ := ha
  obtain ⟨j, hj, rfl⟩ := hb
  have key : ∀ i, i < 64 → ∀ j, j < 64 → (nI i &&& nI j).toNatClampNeg < 64 ∧ nI i &&& nI j = nI (nI i &&& nI j).toNatClampNeg := by decide +kernel
  exact ⟨_, (key i hi j hj).1, (key i hi j hj).2⟩
theorem ok_acknowledge {g4 g5 g6 g7 g8 g9 g10 g11 g12 g13 g14 g15 g16 g17 : Int32} {r0 r1 r2 r3 : Nat → Int32} {p3 p4 p5 p6 p7 p8 p10 p11 p12 p13 p14 p15 p16 p17 p18 : Int32} {v0 v1 v2 v9 : Nat → Int32} {N : Nat} (hR : rel (g4, g5, g6, g7, g8, g9, g10, g11, g12, g13, g14, g15, g16, g17, r0, r1, r2, r3) (p3, p4, p5, p6, p7, p8, p10, p11, p12, p13, p14, p15, p16, p17, p18, v0, v1, v2, v9)) (hI : inv N (p3, p4, p5, p6, p7, p8, p10, p11, p12, p13, p14, p15, p16, p17, p18, v0, v1, v2, v9)) {r q : Int32} {u : SX} {w : SM} (h1 : (r, u) = sX_acknowledge g4 g5 g6 g7 g8 g9 g10 g11 g12 g13 g14 g15 g16 g17 r0 r1 r2 r3) (h2 : (q, w) = sM_acknowledge p3 p4 p5 p6 p7 p8 p10 p11 p12 p13 p14 p15 p16 p17 p18 v0 v1 v2 v9) : r = q ∧ rel u w ∧ inv (N + 600) w := by
  unfold sX_acknowledge bX_acknowledge_0 at h1
  unfold sM_acknowledge bM_acknowledge_0 at h2
  obtain ⟨rfl, rfl⟩ := Prod.mk.inj h1
  obtain ⟨rfl, rfl⟩ := Prod.mk.inj h2
  obtain ⟨rfl, rfl, rfl, rfl, rfl, rfl, rfl, rfl, rfl, rfl, rfl, rfl, rfl, rfl, rfl, rfl, rfl, hr3⟩ := hR
  refine ⟨rfl, ⟨rfl, rfl, rfl, rfl, rfl, rfl, rfl, rfl, rfl, rfl, rfl, rfl, rfl, rfl, rfl, rfl, rfl, hr3⟩, ?_⟩
  obtain ⟨T, F, a, b, E, C, hT, hF, f3, f8, ha, f12, hb, f13, hE, f14, hC, f15, g4', g5', h⟩ := hI
  exact ⟨T, F, a, b, E, C, by omega, hF, f3, f8, ha, f12, hb, f13, hE, f14, hC, f15, and64 g4' g5', g5', h⟩
theorem ok_substitute {g4 g5 g6 g7 g8 g9 g10 g11 g12 g13 g14 g15 g16 g17 : Int32} {r0 r1 r2 r3 : Nat → Int32} {p3 p4 p5 p6 p7 p8 p10 p11 p12 p13 p14 p15 p16 p17 p18 : Int32} {v0 v1 v2 v9 : Nat → Int32} {N : Nat} {k : Int32} (hR : rel (g4, g5, g6, g7, g8, g9, g10, g11, g12, g13, g14, g15, g16, g17, r0, r1, r2, r3) (p3, p4, p5, p6, p7, p8, p10, p11, p12, p13, p14, p15, p16, p17, p18, v0, v1, v2, v9)) (hI : inv N (p3, p4, p5, p6, p7, p8, p10, p11, p12, p13, p14, p15, p16, p17, p18, v0, v1, v2, v9)) {r q : Int32} {u : SX} {w : SM} (h1 : (r, u) = sX_substitute g4 g5 g6 g7 g8 g9 g10 g11 g12 g13 g14 g15 g16 g17 r0 r1 r2 r3 k) (h2 : (q, w) = sM_substitute p3 p4 p5 p6 p7 p8 p10 p11 p12 p13 p14 p15 p16 p17 p18 v0 v1 v2 v9 k) : r = q ∧ rel u w ∧ inv (N + 600) w := by
  unfold sX_substitute bX_substitute_0 at h1
  unfold sM_substitute bM_substitute_0 at h2
  rw [out_eq] at h1
  by_cases z1 : k < -1
  · rw [if_pos (Or.inl z1), if_neg (by decide)] at h1
    rw [if_pos z1] at h2
    unfold bX_substitute_10 at h1
    unfold bM_substitute_11 at h2
    obtain ⟨rfl, rfl⟩ := Prod.mk.inj h1
    obtain ⟨rfl, rfl⟩ := Prod.mk.inj h2
    exact ⟨rfl, hR, inv_mono hI (by omega)⟩
  · by_cases z2 : k ≤ 15
    · have z3 : ¬ 15 < k := by rw [i_lt]; rw [i_le] at z2; omega
      rw [if_neg (show ¬ (k < -1 ∨ 15 < k) from fun q => q.elim z1 z3), if_pos rfl] at h1
      rw [if_neg z1] at h2
      unfold bM_substitute_5 at h2
      rw [if_pos z2] at h2
      unfold bX_substitute_12 at h1
      unfold bM_substitute_13 at h2
      obtain ⟨rfl, rfl⟩ := Prod.mk.inj h1
      obtain ⟨rfl, rfl⟩ := Prod.mk.inj h2
      obtain ⟨rfl, rfl, rfl, rfl, rfl, rfl, rfl, rfl, rfl, rfl, rfl, rfl, rfl, rfl, rfl, rfl, rfl, hr3⟩ := hR
      refine ⟨rfl, ⟨rfl, rfl, rfl, rfl, rfl, rfl, rfl, rfl, rfl, rfl, rfl, rfl, rfl, rfl, rfl, rfl, rfl, hr3⟩, ?_⟩
      obtain ⟨T, F, a, b, E, C, hT, hF, f3, f8, ha, f12, hb, f13, hE, f14, hC, f15, g4', g5', g7', h⟩ := hI
      refine ⟨T, F, a, b, E, C, by omega, hF, f3, f8, ha, f12, hb, f13, hE, f14, hC, f15, g4', g5', ?_, h⟩
      by_cases z4 : k < 0
      · refine Or.inl (Int32.toInt_inj.mp ?_)
        rw [i_lt, show (-1 : Int32).toInt = -1 from rfl] at z1
        rw [i_lt, show (0 : Int32).toInt = 0 from rfl] at z4
        rw [show (-1 : Int32).toInt = -1 from rfl]
        omega
      · obtain ⟨j, hj, e⟩ := nI_of2 (M := 15) (n := 15) rfl z4 z2
        exact Or.inr ⟨j, by omega, e⟩
    · have z3 : 15 < k := by rw [i_lt]; rw [i_le] at z2; omega
      rw [if_pos (Or.inr z3), if_neg (by decide)] at h1
      rw [if_neg z1] at h2
      unfold bM_substitute_5 at h2
      rw [if_neg z2] at h2
      unfold bX_substitute_10 at h1
      unfold bM_substitute_11 at h2
      obtain ⟨rfl, rfl⟩ := Prod.mk.inj h1
      obtain ⟨rfl, rfl⟩ := Prod.mk.inj h2
      exact ⟨rfl, hR, inv_mono hI (by omega)⟩
