theorem inv_go {p3 p4 p5 p6 p7 p8 p10 p11 p12 p13 p14 p15 p16 p17 p18 : Int32} {v0 v1 v2 v9 : Nat → Int32} {N F' : Nat} (h : inv N (p3, p4, p5, p6, p7, p8, p10, p11, p12, p13, p14, p15, p16, p17, p18, v0, v1, v2, v9)) (hF' : F' ≤ 6) (h3 : F' ≠ 3) (x16 x17 x18 : Int32) : inv N (nI F', p4, p5, p6, p7, p8, p10, p11, p12, p13, p14, p15, x16, x17, x18, v0, v1, v2, v9) := by
  obtain ⟨T, F, a, b, E, C, hT, hF, f3, f8, ha, f12, hb, f13, hE, f14, hC, f15, k4, k5', k7, hv, hs, hE3⟩ := h
  exact ⟨T, F', a, b, E, C, hT, hF', rfl, f8, ha, f12, hb, f13, hE, f14, hC, f15, k4, k5', k7, hv, hs, fun q => absurd q h3⟩
theorem inv_go3 {p3 p4 p5 p6 p7 p8 p10 p11 p12 p13 p14 p15 p16 p17 p18 : Int32} {v0 v1 v2 v9 : Nat → Int32} {N : Nat} (h : inv N (p3, p4, p5, p6, p7, p8, p10, p11, p12, p13, p14, p15, p16, p17, p18, v0, v1, v2, v9)) (x16 x17 x18 : Int32) : inv N (3, p4, p5, p6, p7, p8, p10, p11, p12, p13, 0, 0, x16, x17, x18, v0, v1, v2, v9) := by
  obtain ⟨T, F, a, b, E, C, hT, hF, f3, f8, ha, f12, hb, f13, hE, f14, hC, f15, k4, k5', k7, hv, hs, hE3⟩ := h
  refine ⟨T, 3, a, b, 0, 0, hT, by decide, rfl, f8, ha, f12, hb, f13, Nat.zero_le _, rfl, Nat.zero_le _, rfl, k4, k5', k7, hv, hs, fun _ M hM eM => ?_⟩
  have h1 := (hv 3 (by decide)).1
  rw [eM, show tPL 3 = nI 1 from rfl, nI_leI (by decide) (by omega)] at h1
  omega
set_option maxHeartbeats 4000000 in
theorem ok_next {g4 g5 g6 g7 g8 g9 g10 g11 g12 g13 g14 g15 g16 g17 : Int32} {r0 r1 r2 r3 : Nat → Int32} {p3 p4 p5 p6 p7 p8 p10 p11 p12 p13 p14 p15 p16 p17 p18 : Int32} {v0 v1 v2 v9 : Nat → Int32} {N : Nat} (hR : rel (g4, g5, g6, g7, g8, g9, g10, g11, g12, g13, g14, g15, g16, g17, r0, r1, r2, r3) (p3, p4, p5, p6, p7, p8, p10, p11, p12, p13, p14, p15, p16, p17, p18, v0, v1, v2, v9)) (hI : inv N (p3, p4, p5, p6, p7, p8, p10, p11, p12, p13, p14, p15, p16, p17, p18, v0, v1, v2, v9)) {r q : Int32} {u : SX} {w : SM} (h1 : (r, u) = sX_next g4 g5 g6 g7 g8 g9 g10 g11 g12 g13 g14 g15 g16 g17 r0 r1 r2 r3) (h2 : (q, w) = sM_next p3 p4 p5 p6 p7 p8 p10 p11 p12 p13 p14 p15 p16 p17 p18 v0 v1 v2 v9) : r = q ∧ rel u w ∧ inv (N + 600) w := by
  have hI : inv (N + 600) (p3, p4, p5, p6, p7, p8, p10, p11, p12, p13, p14, p15, p16, p17, p18, v0, v1, v2, v9) := inv_mono hI (by omega)
  have hp : p3 = 0 ∨ p3 = 1 ∨ p3 = 2 ∨ p3 = 3 ∨ p3 = 4 ∨ p3 = 5 ∨ p3 = 6 := by
    obtain ⟨T, F, a, b, E, C, hT, hF, f3, -⟩ := hI
    exact ph7 hF f3
  obtain ⟨rfl, rfl, rfl, rfl, rfl, rfl, rfl, rfl, rfl, rfl, rfl, rfl, rfl, rfl, rfl, rfl, rfl, hr3⟩ := hR
  have hcon : sM_consistent g4 g5 g6 g7 g8 p8 p10 p11 p12 p13 g9 p15 g11 g12 g13 r0 r1 r2 v9 = sX_areConsistent g4 g5 g6 g7 g8 g9 (500 * p15) g11 g12 g13 (p8 - p13) (p8 - p12) (p8 - p10) (p8 - p11) r0 r1 r2 r3 := rfl
  rcases hp with rfl | rfl | rfl | rfl | rfl | rfl | rfl
  · simp only [bX_next_32, bX_next_29q, bX_next_29, bX_next_23, bX_next_19, bX_next_9, bX_next_7, bX_next_0, sX_next, bX_mayLeavePhase_131, bX_mayLeavePhase_129, bX_mayLeavePhase_125, bX_mayLeavePhase_116, bX_mayLeavePhase_114, bX_mayLeavePhase_110, bX_mayLeavePhase_101, bX_mayLeavePhase_99, bX_mayLeavePhase_95, bX_mayLeavePhase_88, bX_mayLeavePhase_86, bX_mayLeavePhase_82, bX_mayLeavePhase_73, bX_mayLeavePhase_71, bX_mayLeavePhase_67, bX_mayLeavePhase_60, bX_mayLeavePhase_51, bX_mayLeavePhase_44, bX_mayLeavePhase_0, sX_mayLeavePhase, bX_beginPhase_15, bX_beginPhase_0, sX_beginPhase] at h1
    simp only [bM_next_183, bM_next_180q, bM_next_180, bM_next_174, bM_next_170, bM_next_160, bM_next_158, bM_next_154, bM_next_153, bM_next_152, bM_next_148, bM_next_139, bM_next_131, bM_next_130, bM_next_129, bM_next_125, bM_next_116, bM_next_108, bM_next_107, bM_next_106, bM_next_102, bM_next_95, bM_next_87, bM_next_86, bM_next_85, bM_next_81, bM_next_72, bM_next_64, bM_next_63, bM_next_62, bM_next_58, bM_next_51, bM_next_37, bM_next_30, bM_next_22, bM_next_21, bM_next_17, bM_next_8, bM_next_0, sM_next, bM_enter_15, bM_enter_0, sM_enter, hcon] at h2
    by_cases c1 : sX_areConsistent 0 g5 g6 g7 g8 g9 (500 * p15) g11 g12 g13 (p8 - p13) (p8 - p12) (p8 - p10) (p8 - p11) r0 r1 r2 r3 = 0
    · simp [c1] at h1 h2
      obtain ⟨rfl, rfl⟩ := h1
      obtain ⟨rfl, rfl⟩ := h2
      exact ⟨rfl, ⟨rfl, rfl, rfl, rfl, rfl, rfl, rfl, rfl, rfl, rfl, rfl, rfl, rfl, rfl, rfl, rfl, rfl, hr3⟩, hI⟩
    · by_cases c2 : p8 - p13 < 20
      · simp [c1, c2] at h1 h2
        obtain ⟨rfl, rfl⟩ := h1
        obtain ⟨rfl, rfl⟩ := h2
        exact ⟨rfl, ⟨rfl, rfl, rfl, rfl, rfl, rfl, rfl, rfl, rfl, rfl, rfl, rfl, rfl, rfl, rfl, rfl, rfl, hr3⟩, hI⟩
      · by_cases c3 : g5 = 0
        · subst c3
          simp [c1, c2] at h1 h2
          obtain ⟨rfl, rfl⟩ := h1
          obtain ⟨rfl, rfl⟩ := h2
          exact ⟨rfl, ⟨rfl, rfl, rfl, rfl, rfl, rfl, rfl, rfl, rfl, rfl, rfl, rfl, rfl, rfl, rfl, rfl, rfl, hr3⟩, inv_go (F' := 1) hI (by decide) (by decide) _ _ _⟩
        · simp [c1, c2, c3] at h1 h2
          obtain ⟨rfl, rfl⟩ := h1
          obtain ⟨rfl, rfl⟩ := h2
          exact ⟨rfl, ⟨rfl, rfl, rfl, rfl, rfl, rfl, rfl, rfl, rfl, rfl, rfl, rfl, rfl, rfl, rfl, rfl, rfl, hr3⟩, hI⟩
  · simp only [bX_next_32, bX_next_29q, bX_next_29, bX_next_23, bX_next_19, bX_next_9, bX_next_7, bX_next_0, sX_next, bX_mayLeavePhase_131, bX_mayLeavePhase_129, bX_mayLeavePhase_125, bX_mayLeavePhase_116, bX_mayLeavePhase_114, bX_mayLeavePhase_110, bX_mayLeavePhase_101, bX_mayLeavePhase_99, bX_mayLeavePhase_95, bX_mayLeavePhase_88, bX_mayLeavePhase_86, bX_mayLeavePhase_82, bX_mayLeavePhase_73, bX_mayLeavePhase_71, bX_mayLeavePhase_67, bX_mayLeavePhase_60, bX_mayLeavePhase_51, bX_mayLeavePhase_44, bX_mayLeavePhase_0, sX_mayLeavePhase, bX_beginPhase_15, bX_beginPhase_0, sX_beginPhase] at h1
    simp only [bM_next_183, bM_next_180q, bM_next_180, bM_next_174, bM_next_170, bM_next_160, bM_next_158, bM_next_154, bM_next_153, bM_next_152, bM_next_148, bM_next_139, bM_next_131, bM_next_130, bM_next_129, bM_next_125, bM_next_116, bM_next_108, bM_next_107, bM_next_106, bM_next_102, bM_next_95, bM_next_87, bM_next_86, bM_next_85, bM_next_81, bM_next_72, bM_next_64, bM_next_63, bM_next_62, bM_next_58, bM_next_51, bM_next_37, bM_next_30, bM_next_22, bM_next_21, bM_next_17, bM_next_8, bM_next_0, sM_next, bM_enter_15, bM_enter_0, sM_enter] at h2
    by_cases c1 : g13 < 100
    · simp [c1] at h1 h2
      obtain ⟨rfl, rfl⟩ := h1
      obtain ⟨rfl, rfl⟩ := h2
      exact ⟨rfl, ⟨rfl, rfl, rfl, rfl, rfl, rfl, rfl, rfl, rfl, rfl, rfl, rfl, rfl, rfl, rfl, rfl, rfl, hr3⟩, hI⟩
    · simp [c1] at h1 h2
      obtain ⟨rfl, rfl⟩ := h1
      obtain ⟨rfl, rfl⟩ := h2
      exact ⟨rfl, ⟨rfl, rfl, rfl, rfl, rfl, rfl, rfl, rfl, rfl, rfl, rfl, rfl, rfl, rfl, rfl, rfl, rfl, hr3⟩, inv_go (F' := 2) hI (by decide) (by decide) _ _ _⟩
  · simp only [bX_next_32, bX_next_29q, bX_next_29, bX_next_23, bX_next_19, bX_next_9, bX_next_7, bX_next_0, sX_next, bX_mayLeavePhase_131, bX_mayLeavePhase_129, bX_mayLeavePhase_125, bX_mayLeavePhase_116, bX_mayLeavePhase_114, bX_mayLeavePhase_110, bX_mayLeavePhase_101, bX_mayLeavePhase_99, bX_mayLeavePhase_95, bX_mayLeavePhase_88, bX_mayLeavePhase_86, bX_mayLeavePhase_82, bX_mayLeavePhase_73, bX_mayLeavePhase_71, bX_mayLeavePhase_67, bX_mayLeavePhase_60, bX_mayLeavePhase_51, bX_mayLeavePhase_44, bX_mayLeavePhase_0, sX_mayLeavePhase, bX_beginPhase_15, bX_beginPhase_0, sX_beginPhase] at h1
    simp only [bM_next_183, bM_next_180q, bM_next_180, bM_next_174, bM_next_170, bM_next_160, bM_next_158, bM_next_154, bM_next_153, bM_next_152, bM_next_148, bM_next_139, bM_next_131, bM_next_130, bM_next_129, bM_next_125, bM_next_116, bM_next_108, bM_next_107, bM_next_106, bM_next_102, bM_next_95, bM_next_87, bM_next_86, bM_next_85, bM_next_81, bM_next_72, bM_next_64, bM_next_63, bM_next_62, bM_next_58, bM_next_51, bM_next_37, bM_next_30, bM_next_22, bM_next_21, bM_next_17, bM_next_8, bM_next_0, sM_next, bM_enter_15, bM_enter_0, sM_enter] at h2
    by_cases c1 : g5 = 0
    · simp [c1] at h1 h2
      obtain ⟨rfl, rfl⟩ := h1
      obtain ⟨rfl, rfl⟩ := h2
      subst c1
      exact ⟨rfl, ⟨rfl, rfl, rfl, rfl, rfl, rfl, rfl, rfl, rfl, rfl, rfl, rfl, rfl, rfl, rfl, rfl, rfl, hr3⟩, inv_go3 hI _ _ _⟩
    · simp [c1] at h1 h2
      obtain ⟨rfl, rfl⟩ := h1
      obtain ⟨rfl, rfl⟩ := h2
      exact ⟨rfl, ⟨rfl, rfl, rfl, rfl, rfl, rfl, rfl, rfl, rfl, rfl, rfl, rfl, rfl, rfl, rfl, rfl, rfl, hr3⟩, hI⟩
  · simp only [bX_next_32, bX_next_29q, bX_next_29, bX_next_23, bX_next_19, bX_next_9, bX_next_7, bX_next_0, sX_next, bX_mayLeavePhase_131, bX_mayLeavePhase_129, bX_mayLeavePhase_125, bX_mayLeavePhase_116, bX_mayLeavePhase_114, bX_mayLeavePhase_110, bX_mayLeavePhase_101, bX_mayLeavePhase_99, bX_mayLeavePhase_95, bX_mayLeavePhase_88, bX_mayLeavePhase_86, bX_mayLeavePhase_82, bX_mayLeavePhase_73, bX_mayLeavePhase_71, bX_mayLeavePhase_67, bX_mayLeavePhase_60, bX_mayLeavePhase_51, bX_mayLeavePhase_44, bX_mayLeavePhase_0, sX_mayLeavePhase, bX_beginPhase_15, bX_beginPhase_0, sX_beginPhase] at h1
    simp only [bM_next_183, bM_next_180q, bM_next_180, bM_next_174, bM_next_170, bM_next_160, bM_next_158, bM_next_154, bM_next_153, bM_next_152, bM_next_148, bM_next_139, bM_next_131, bM_next_130, bM_next_129, bM_next_125, bM_next_116, bM_next_108, bM_next_107, bM_next_106, bM_next_102, bM_next_95, bM_next_87, bM_next_86, bM_next_85, bM_next_81, bM_next_72, bM_next_64, bM_next_63, bM_next_62, bM_next_58, bM_next_51, bM_next_37, bM_next_30, bM_next_22, bM_next_21, bM_next_17, bM_next_8, bM_next_0, sM_next, bM_enter_15, bM_enter_0, sM_enter] at h2
    simp at h1 h2
    obtain ⟨rfl, rfl⟩ := h1
    obtain ⟨rfl, rfl⟩ := h2
    exact ⟨rfl, ⟨rfl, rfl, rfl, rfl, rfl, rfl, rfl, rfl, rfl, rfl, rfl, rfl, rfl, rfl, rfl, rfl, rfl, hr3⟩, inv_go (F' := 4) hI (by decide) (by decide) _ _ _⟩
  · simp only [bX_next_32, bX_next_29q, bX_next_29, bX_next_23, bX_next_19, bX_next_9, bX_next_7, bX_next_0, sX_next, bX_mayLeavePhase_131, bX_mayLeavePhase_129, bX_mayLeavePhase_125, bX_mayLeavePhase_116, bX_mayLeavePhase_114, bX_mayLeavePhase_110, bX_mayLeavePhase_101, bX_mayLeavePhase_99, bX_mayLeavePhase_95, bX_mayLeavePhase_88, bX_mayLeavePhase_86, bX_mayLeavePhase_82, bX_mayLeavePhase_73, bX_mayLeavePhase_71, bX_mayLeavePhase_67, bX_mayLeavePhase_60, bX_mayLeavePhase_51, bX_mayLeavePhase_44, bX_mayLeavePhase_0, sX_mayLeavePhase, bX_beginPhase_15, bX_beginPhase_0, sX_beginPhase] at h1
    simp only [bM_next_183, bM_next_180q, bM_next_180, bM_next_174, bM_next_170, bM_next_160, bM_next_158, bM_next_154, bM_next_153, bM_next_152, bM_next_148, bM_next_139, bM_next_131, bM_next_130, bM_next_129, bM_next_125, bM_next_116, bM_next_108, bM_next_107, bM_next_106, bM_next_102, bM_next_95, bM_next_87, bM_next_86, bM_next_85, bM_next_81, bM_next_72, bM_next_64, bM_next_63, bM_next_62, bM_next_58, bM_next_51, bM_next_37, bM_next_30, bM_next_22, bM_next_21, bM_next_17, bM_next_8, bM_next_0, sM_next, bM_enter_15, bM_enter_0, sM_enter] at h2
    by_cases c1 : g13 < 50
    · simp [c1] at h1 h2
      obtain ⟨rfl, rfl⟩ := h1
      obtain ⟨rfl, rfl⟩ := h2
      exact ⟨rfl, ⟨rfl, rfl, rfl, rfl, rfl, rfl, rfl, rfl, rfl, rfl, rfl, rfl, rfl, rfl, rfl, rfl, rfl, hr3⟩, hI⟩
    · simp [c1] at h1 h2
      obtain ⟨rfl, rfl⟩ := h1
      obtain ⟨rfl, rfl⟩ := h2
      exact ⟨rfl, ⟨rfl, rfl, rfl, rfl, rfl, rfl, rfl, rfl, rfl, rfl, rfl, rfl, rfl, rfl, rfl, rfl, rfl, hr3⟩, inv_go (F' := 5) hI (by decide) (by decide) _ _ _⟩
  · simp only [bX_next_32, bX_next_29q, bX_next_29, bX_next_23, bX_next_19, bX_next_9, bX_next_7, bX_next_0, sX_next, bX_mayLeavePhase_131, bX_mayLeavePhase_129, bX_mayLeavePhase_125, bX_mayLeavePhase_116, bX_mayLeavePhase_114, bX_mayLeavePhase_110, bX_mayLeavePhase_101, bX_mayLeavePhase_99, bX_mayLeavePhase_95, bX_mayLeavePhase_88, bX_mayLeavePhase_86, bX_mayLeavePhase_82, bX_mayLeavePhase_73, bX_mayLeavePhase_71, bX_mayLeavePhase_67, bX_mayLeavePhase_60, bX_mayLeavePhase_51, bX_mayLeavePhase_44, bX_mayLeavePhase_0, sX_mayLeavePhase, bX_beginPhase_15, bX_beginPhase_0, sX_beginPhase] at h1
    simp only [bM_next_183, bM_next_180q, bM_next_180, bM_next_174, bM_next_170, bM_next_160, bM_next_158, bM_next_154, bM_next_153, bM_next_152, bM_next_148, bM_next_139, bM_next_131, bM_next_130, bM_next_129, bM_next_125, bM_next_116, bM_next_108, bM_next_107, bM_next_106, bM_next_102, bM_next_95, bM_next_87, bM_next_86, bM_next_85, bM_next_81, bM_next_72, bM_next_64, bM_next_63, bM_next_62, bM_next_58, bM_next_51, bM_next_37, bM_next_30, bM_next_22, bM_next_21, bM_next_17, bM_next_8, bM_next_0, sM_next, bM_enter_15, bM_enter_0, sM_enter] at h2
    by_cases c1 : g13 < 30
    · simp [c1] at h1 h2
      obtain ⟨rfl, rfl⟩ := h1
      obtain ⟨rfl, rfl⟩ := h2
      exact ⟨rfl, ⟨rfl, rfl, rfl, rfl, rfl, rfl, rfl, rfl, rfl, rfl, rfl, rfl, rfl, rfl, rfl, rfl, rfl, hr3⟩, hI⟩
    · simp [c1] at h1 h2
      obtain ⟨rfl, rfl⟩ := h1
      obtain ⟨rfl, rfl⟩ := h2
      exact ⟨rfl, ⟨rfl, rfl, rfl, rfl, rfl, rfl, rfl, rfl, rfl, rfl, rfl, rfl, rfl, rfl, rfl, rfl, rfl, hr3⟩, inv_go (F' := 6) hI (by decide) (by decide) _ _ _⟩
  · simp only [bX_next_32, bX_next_29q, bX_next_29, bX_next_23, bX_next_19, bX_next_9, bX_next_7, bX_next_0, sX_next, bX_mayLeavePhase_131, bX_mayLeavePhase_129, bX_mayLeavePhase_125, bX_mayLeavePhase_116, bX_mayLeavePhase_114, bX_mayLeavePhase_110, bX_mayLeavePhase_101, bX_mayLeavePhase_99, bX_mayLeavePhase_95, bX_mayLeavePhase_88, bX_mayLeavePhase_86, bX_mayLeavePhase_82, bX_mayLeavePhase_73, bX_mayLeavePhase_71, bX_mayLeavePhase_67, bX_mayLeavePhase_60, bX_mayLeavePhase_51, bX_mayLeavePhase_44, bX_mayLeavePhase_0, sX_mayLeavePhase, bX_beginPhase_15, bX_beginPhase_0, sX_beginPhase] at h1
    simp only [bM_next_183, bM_next_180q, bM_next_180, bM_next_174, bM_next_170, bM_next_160, bM_next_158, bM_next_154, bM_next_153, bM_next_152, bM_next_148, bM_next_139, bM_next_131, bM_next_130, bM_next_129, bM_next_125, bM_next_116, bM_next_108, bM_next_107, bM_next_106, bM_next_102, bM_next_95, bM_next_87, bM_next_86, bM_next_85, bM_next_81, bM_next_72, bM_next_64, bM_next_63, bM_next_62, bM_next_58, bM_next_51, bM_next_37, bM_next_30, bM_next_22, bM_next_21, bM_next_17, bM_next_8, bM_next_0, sM_next, bM_enter_15, bM_enter_0, sM_enter] at h2
    simp at h1 h2
    obtain ⟨rfl, rfl⟩ := h1
    obtain ⟨rfl, rfl⟩ := h2
    exact ⟨rfl, ⟨rfl, rfl, rfl, rfl, rfl, rfl, rfl, rfl, rfl, rfl, rfl, rfl, rfl, rfl, rfl, rfl, rfl, hr3⟩, inv_go (F' := 0) hI (by decide) (by decide) _ _ _⟩
set_option maxHeartbeats 4000000 in
theorem tk_loop (f : Nat) : ∀ (k d K N : Nat), k < f → d + k = K → K ≤ 600 → N + k < 399999 → ∀ (g4 g5 g6 g7 g8 g9 g10 g11 g12 g13 g14 g15 g16 g17 : Int32) (r0 r1 r2 r3 : Nat → Int32) (p3 p4 p5 p6 p7 p8 p10 p11 p12 p13 p14 p15 p16 p17 p18 : Int32) (v0 v1 v2 v9 : Nat → Int32), rel (g4, g5, g6, g7, g8, g9, g10, g11, g12, g13, g14, g15, g16, g17, r0, r1, r2, r3) (p3, p4, p5, p6, p7, p8, p10, p11, p12, p13, p14, p15, p16, p17, p18, v0, v1, v2, v9) → inv N (p3, p4, p5, p6, p7, p8, p10, p11, p12, p13, p14, p15, p16, p17, p18, v0, v1, v2, v9) → ∃ (ans : Int32) (x' : SX) (y' : SM), bX_tick_15 f g4 g5 g6 g7 g8 g9 g10 g11 g12 g13 g14 g15 g16 g17 r0 r1 r2 r3 (nI K) (nI (d + 1)) = (ans, x') ∧ bM_tick_18 f p3 p4 p5 p6 p7 p8 p10 p11 p12 p13 p14 p15 p16 p17 p18 v0 v1 v2 v9 (nI K) (nI d) 1 = (ans, y') ∧ rel x' y' ∧ inv (N + k) y' := by
  induction f with
  | zero => intro k d K N hk; omega
  | succ f ih =>
    intro k d K N hk hd hK hN g4 g5 g6 g7 g8 g9 g10 g11 g12 g13 g14 g15 g16 g17 r0 r1 r2 r3 p3 p4 p5 p6 p7 p8 p10 p11 p12 p13 p14 p15 p16 p17 p18 v0 v1 v2 v9 hR hI
    rw [bX_tick_15_s, bM_tick_18_s]
    by_cases h0 : k = 0
    · subst h0
      have hdK : d = K := by omega
      subst hdK
      rw [if_pos (nI_lt (by omega) (by omega)), if_pos (nI_le (Nat.le_refl _) (by omega))]
      exact ⟨_, _, _, rfl, rfl, hR, hI⟩
    · rw [if_neg (nI_nlt (by omega) (by omega)), if_neg (nI_ge (by omega) (by omega))]
      unfold bX_tick_20 bM_tick_23
      rw [if_neg (by decide)]
      unfold bM_tick_27
      have ht := tick_ok hR hI (by omega)
      generalize sX_makeTick g4 g5 g6 g7 g8 g9 g10 g11 g12 g13 g14 g15 g16 g17 r0 r1 r2 r3 = xq at ht
      generalize sM_one p3 p4 p5 p6 p7 p8 p10 p11 p12 p13 p14 p15 p16 p17 p18 v0 v1 v2 v9 = yq at ht
      obtain ⟨t1, t2, t3⟩ := ht
      obtain ⟨ra, a4, a5, a6, a7, a8, a9, a10, a11, a12, a13, a14, a15, a16, a17, b0, b1, b2, b3⟩ := xq
      obtain ⟨rb, c3, c4, c5, c6, c7, c8, c10, c11, c12, c13, c14, c15, c16, c17, c18, d0, d1, d2, d9⟩ := yq
      have t1 : ra = rb := t1
      subst t1
      show ∃ ans x' y', bX_tick_24 (bX_tick_15 f) a4 a5 a6 a7 a8 a9 a10 a11 a12 a13 a14 a15 a16 a17 b0 b1 b2 b3 (nI K) (nI (d + 1)) ra = (ans, x') ∧ bM_tick_31 (bM_tick_18 f) c3 c4 c5 c6 c7 c8 c10 c11 c12 c13 c14 c15 c16 c17 c18 d0 d1 d2 d9 (nI K) (nI d) ra = (ans, y') ∧ rel x' y' ∧ inv (N + k) y'
      unfold bX_tick_24 bM_tick_31
      by_cases hr : ra = 0
      · rw [if_pos hr, if_pos hr]
        unfold bX_tick_29 bM_tick_34 bM_tick_39
        rw [nI_1, nI_1]
        obtain ⟨ans, x', y', q1, q2, q3, q4⟩ := ih (k - 1) (d + 1) K (N + 1) (by omega) (by omega) hK (by omega) a4 a5 a6 a7 a8 a9 a10 a11 a12 a13 a14 a15 a16 a17 b0 b1 b2 b3 c3 c4 c5 c6 c7 c8 c10 c11 c12 c13 c14 c15 c16 c17 c18 d0 d1 d2 d9 t2 t3
        exact ⟨ans, x', y', q1, q2, q3, inv_mono q4 (by omega)⟩
      · rw [if_neg hr, if_neg hr]
        unfold bX_tick_27 bM_tick_38 bM_tick_39
        rw [nI_1]
        obtain ⟨f', rfl⟩ : ∃ f', f = f' + 1 := ⟨f - 1, by omega⟩
        rw [bM_tick_18_s]
        refine ⟨_, _, _, rfl, ?_, t2, inv_mono t3 (by omega)⟩
        unfold bM_tick_23
        rw [if_pos rfl]
        split <;> rfl
theorem ok_tick {g4 g5 g6 g7 g8 g9 g10 g11 g12 g13 g14 g15 g16 g17 : Int32} {r0 r1 r2 r3 : Nat → Int32} {p3 p4 p5 p6 p7 p8 p10 p11 p12 p13 p14 p15 p16 p17 p18 : Int32} {v0 v1 v2 v9 : Nat → Int32} {N : Nat} {k : Int32} (hN : N < 390000) (hR : rel (g4, g5, g6, g7, g8, g9, g10, g11, g12, g13, g14, g15, g16, g17, r0, r1, r2, r3) (p3, p4, p5, p6, p7, p8, p10, p11, p12, p13, p14, p15, p16, p17, p18, v0, v1, v2, v9)) (hI : inv N (p3, p4, p5, p6, p7, p8, p10, p11, p12, p13, p14, p15, p16, p17, p18, v0, v1, v2, v9)) {r q : Int32} {u : SX} {w : SM} (h1 : (r, u) = sX_tick g4 g5 g6 g7 g8 g9 g10 g11 g12 g13 g14 g15 g16 g17 r0 r1 r2 r3 k) (h2 : (q, w) = sM_tick p3 p4 p5 p6 p7 p8 p10 p11 p12 p13 p14 p15 p16 p17 p18 v0 v1 v2 v9 k) : r = q ∧ rel u w ∧ inv (N + 600) w := by
  unfold sX_tick bX_tick_0 at h1
  unfold sM_tick bM_tick_0 at h2
  rw [out_eq] at h1
  by_cases z1 : k < 1
  · rw [if_pos (Or.inl z1), if_neg (by decide)] at h1
    rw [if_pos z1] at h2
    obtain ⟨rfl, rfl⟩ := Prod.mk.inj h1
    obtain ⟨rfl, rfl⟩ := Prod.mk.inj h2
    exact ⟨rfl, hR, inv_mono hI (by omega)⟩
  · rw [if_neg z1] at h2
    unfold bM_tick_5 at h2
    by_cases z2 : k ≤ 600
    · rw [if_pos z2] at h2
      rw [if_neg (show ¬ (k < 1 ∨ 600 < k) from fun q => q.elim z1 (fun q => by rw [i_lt] at q; rw [i_le] at z2; omega)), if_pos rfl] at h1
      obtain ⟨K, hK, rfl⟩ := tickN2 z1 z2
      obtain ⟨ans, x', y', q1, q2, q3, q4⟩ := tk_loop 601 K 0 K N (by omega) (by omega) hK (by omega) g4 g5 g6 g7 g8 g9 g10 g11 g12 g13 g14 g15 g16 g17 r0 r1 r2 r3 p3 p4 p5 p6 p7 p8 p10 p11 p12 p13 p14 p15 p16 p17 p18 v0 v1 v2 v9 hR hI
      have h1 : (r, u) = (ans, x') := h1.trans q1
      have h2 : (q, w) = (ans, y') := h2.trans q2
      obtain ⟨rfl, rfl⟩ := Prod.mk.inj h1
      obtain ⟨rfl, rfl⟩ := Prod.mk.inj h2
      exact ⟨rfl, q3, inv_mono q4 (by omega)⟩
    · rw [if_neg z2] at h2
      rw [if_pos (Or.inr (by rw [i_lt]; rw [i_le] at z2; omega)), if_neg (by decide)] at h1
      obtain ⟨rfl, rfl⟩ := Prod.mk.inj h1
      obtain ⟨rfl, rfl⟩ := Prod.mk.inj h2
      exact ⟨rfl, hR, inv_mono hI (by omega)⟩
