theorem end_ok {p3 a cn o p7 n m10 m11 m12 m13 e c st t cnt s14 s15 s16 s17 a0 : Int32} {v0 v1 v2 i3 q9 : Nat → Int32} (hp : p3 = 0 ∨ p3 = 1 ∨ p3 = 2 ∨ p3 = 3 ∨ p3 = 4 ∨ p3 = 5 ∨ p3 = 6) (hov : p3 = 3 → ((e < 600 * v0 3) ↔ ¬ (e = 600 * v0 3))) :
    ∃ r p' cnt', bX_makeTick_88 p3 a cn o p7 e (500 * c) st t cnt s14 s15 s16 s17 v0 v1 v2 i3 a0 p3 = (r, (p', a, cn, o, p7, e, 500 * c, st, t, cnt', s14, s15, s16, s17, v0, v1, v2, i3)) ∧ bM_one_92 p3 a cn o p7 n m10 m11 m12 m13 e c st t cnt v0 v1 v2 q9 a0 st = (r, (p', a, cn, o, p7, n, m10, m11, m12, m13, e, c, st, t, cnt', v0, v1, v2, q9)) ∧ ((p' = p3 ∧ (p3 = 3 → e < 600 * v0 3)) ∨ (p3 = 3 ∧ p' = 4)) := by
  by_cases ho : o &&& 1 = 0
  · by_cases ha : a = a0
    · rcases hp with rfl | rfl | rfl | rfl | rfl | rfl | rfl
      all_goals first
        | exact ⟨0, _, _, by simp [bX_makeTick_112, bX_makeTick_108, bX_makeTick_100, bX_makeTick_92, bX_makeTick_89q, bX_makeTick_88, bX_countTowardsEnd_74q, bX_countTowardsEnd_72, bX_countTowardsEnd_61, bX_countTowardsEnd_53, bX_countTowardsEnd_43, bX_countTowardsEnd_34, bX_countTowardsEnd_30, bX_countTowardsEnd_21, bX_countTowardsEnd_20, bX_countTowardsEnd_16, bX_countTowardsEnd_8, bX_countTowardsEnd_0, sX_countTowardsEnd, ho, ha]; rfl, by simp [bM_one_194, bM_one_190, bM_one_182, bM_one_178, bM_one_175q, bM_one_173, bM_one_168, bM_one_167, bM_one_163, bM_one_146, bM_one_138, bM_one_128, bM_one_120, bM_one_111, bM_one_103, bM_one_92, ho, ha], Or.inl ⟨rfl, fun q => absurd q (by decide)⟩⟩
        | skip
      by_cases hv : e < 600 * v0 3
      · have hv2 := (hov rfl).mp hv
        exact ⟨0, 3, cnt, by simp [bX_makeTick_112, bX_makeTick_108, bX_makeTick_100, bX_makeTick_92, bX_makeTick_89q, bX_makeTick_88, bX_countTowardsEnd_74q, bX_countTowardsEnd_72, bX_countTowardsEnd_61, bX_countTowardsEnd_53, bX_countTowardsEnd_43, bX_countTowardsEnd_34, bX_countTowardsEnd_30, bX_countTowardsEnd_21, bX_countTowardsEnd_20, bX_countTowardsEnd_16, bX_countTowardsEnd_8, bX_countTowardsEnd_0, sX_countTowardsEnd, bX_ticksOfTreatment_0, sX_ticksOfTreatment, ho, ha, hv], by simp [bM_one_194, bM_one_190, bM_one_182, bM_one_178, bM_one_175q, bM_one_173, bM_one_168, bM_one_167, bM_one_163, bM_one_146, bM_one_138, bM_one_128, bM_one_120, bM_one_111, bM_one_103, bM_one_92, ho, ha, hv2], Or.inl ⟨rfl, fun _ => hv⟩⟩
      · have hv2 : e = 600 * v0 3 := Classical.not_not.mp (fun q => hv ((hov rfl).mpr q))
        exact ⟨1, 4, 0, by simp [bX_makeTick_112, bX_makeTick_108, bX_makeTick_100, bX_makeTick_92, bX_makeTick_89q, bX_makeTick_88, bX_countTowardsEnd_74q, bX_countTowardsEnd_72, bX_countTowardsEnd_61, bX_countTowardsEnd_53, bX_countTowardsEnd_43, bX_countTowardsEnd_34, bX_countTowardsEnd_30, bX_countTowardsEnd_21, bX_countTowardsEnd_20, bX_countTowardsEnd_16, bX_countTowardsEnd_8, bX_countTowardsEnd_0, sX_countTowardsEnd, bX_ticksOfTreatment_0, sX_ticksOfTreatment, bX_beginPhase_15, bX_beginPhase_0, sX_beginPhase, ho, ha, hv], by simp [bM_one_194, bM_one_190, bM_one_182, bM_one_178, bM_one_175q, bM_one_173, bM_one_168, bM_one_167, bM_one_163, bM_one_146, bM_one_138, bM_one_128, bM_one_120, bM_one_111, bM_one_103, bM_one_92, bM_enter_15, bM_enter_0, sM_enter, ho, ha, hv2], Or.inr ⟨rfl, rfl⟩⟩
    · rcases hp with rfl | rfl | rfl | rfl | rfl | rfl | rfl
      all_goals first
        | exact ⟨1, _, _, by simp [bX_makeTick_112, bX_makeTick_108, bX_makeTick_100, bX_makeTick_92, bX_makeTick_89q, bX_makeTick_88, bX_countTowardsEnd_74q, bX_countTowardsEnd_72, bX_countTowardsEnd_61, bX_countTowardsEnd_53, bX_countTowardsEnd_43, bX_countTowardsEnd_34, bX_countTowardsEnd_30, bX_countTowardsEnd_21, bX_countTowardsEnd_20, bX_countTowardsEnd_16, bX_countTowardsEnd_8, bX_countTowardsEnd_0, sX_countTowardsEnd, ho, ha]; rfl, by simp [bM_one_194, bM_one_190, bM_one_182, bM_one_178, bM_one_175q, bM_one_173, bM_one_168, bM_one_167, bM_one_163, bM_one_146, bM_one_138, bM_one_128, bM_one_120, bM_one_111, bM_one_103, bM_one_92, ho, ha], Or.inl ⟨rfl, fun q => absurd q (by decide)⟩⟩
        | skip
      by_cases hv : e < 600 * v0 3
      · have hv2 := (hov rfl).mp hv
        exact ⟨1, 3, cnt, by simp [bX_makeTick_112, bX_makeTick_108, bX_makeTick_100, bX_makeTick_92, bX_makeTick_89q, bX_makeTick_88, bX_countTowardsEnd_74q, bX_countTowardsEnd_72, bX_countTowardsEnd_61, bX_countTowardsEnd_53, bX_countTowardsEnd_43, bX_countTowardsEnd_34, bX_countTowardsEnd_30, bX_countTowardsEnd_21, bX_countTowardsEnd_20, bX_countTowardsEnd_16, bX_countTowardsEnd_8, bX_countTowardsEnd_0, sX_countTowardsEnd, bX_ticksOfTreatment_0, sX_ticksOfTreatment, ho, ha, hv], by simp [bM_one_194, bM_one_190, bM_one_182, bM_one_178, bM_one_175q, bM_one_173, bM_one_168, bM_one_167, bM_one_163, bM_one_146, bM_one_138, bM_one_128, bM_one_120, bM_one_111, bM_one_103, bM_one_92, ho, ha, hv2], Or.inl ⟨rfl, fun _ => hv⟩⟩
      · have hv2 : e = 600 * v0 3 := Classical.not_not.mp (fun q => hv ((hov rfl).mpr q))
        exact ⟨1, 4, 0, by simp [bX_makeTick_112, bX_makeTick_108, bX_makeTick_100, bX_makeTick_92, bX_makeTick_89q, bX_makeTick_88, bX_countTowardsEnd_74q, bX_countTowardsEnd_72, bX_countTowardsEnd_61, bX_countTowardsEnd_53, bX_countTowardsEnd_43, bX_countTowardsEnd_34, bX_countTowardsEnd_30, bX_countTowardsEnd_21, bX_countTowardsEnd_20, bX_countTowardsEnd_16, bX_countTowardsEnd_8, bX_countTowardsEnd_0, sX_countTowardsEnd, bX_ticksOfTreatment_0, sX_ticksOfTreatment, bX_beginPhase_15, bX_beginPhase_0, sX_beginPhase, ho, ha, hv], by simp [bM_one_194, bM_one_190, bM_one_182, bM_one_178, bM_one_175q, bM_one_173, bM_one_168, bM_one_167, bM_one_163, bM_one_146, bM_one_138, bM_one_128, bM_one_120, bM_one_111, bM_one_103, bM_one_92, bM_enter_15, bM_enter_0, sM_enter, ho, ha, hv2], Or.inr ⟨rfl, rfl⟩⟩
  · by_cases ha : a = a0
    · rcases hp with rfl | rfl | rfl | rfl | rfl | rfl | rfl
      all_goals first
        | exact ⟨0, _, _, by simp [bX_makeTick_112, bX_makeTick_108, bX_makeTick_100, bX_makeTick_92, bX_makeTick_89q, bX_makeTick_88, bX_countTowardsEnd_74q, bX_countTowardsEnd_72, bX_countTowardsEnd_61, bX_countTowardsEnd_53, bX_countTowardsEnd_43, bX_countTowardsEnd_34, bX_countTowardsEnd_30, bX_countTowardsEnd_21, bX_countTowardsEnd_20, bX_countTowardsEnd_16, bX_countTowardsEnd_8, bX_countTowardsEnd_0, sX_countTowardsEnd, ho, ha]; rfl, by simp [bM_one_194, bM_one_190, bM_one_182, bM_one_178, bM_one_175q, bM_one_173, bM_one_168, bM_one_167, bM_one_163, bM_one_146, bM_one_138, bM_one_128, bM_one_120, bM_one_111, bM_one_103, bM_one_92, ho, ha], Or.inl ⟨rfl, fun q => absurd q (by decide)⟩⟩
        | skip
      by_cases hv : e < 600 * v0 3
      · have hv2 := (hov rfl).mp hv
        exact ⟨0, 3, cnt, by simp [bX_makeTick_112, bX_makeTick_108, bX_makeTick_100, bX_makeTick_92, bX_makeTick_89q, bX_makeTick_88, bX_countTowardsEnd_74q, bX_countTowardsEnd_72, bX_countTowardsEnd_61, bX_countTowardsEnd_53, bX_countTowardsEnd_43, bX_countTowardsEnd_34, bX_countTowardsEnd_30, bX_countTowardsEnd_21, bX_countTowardsEnd_20, bX_countTowardsEnd_16, bX_countTowardsEnd_8, bX_countTowardsEnd_0, sX_countTowardsEnd, bX_ticksOfTreatment_0, sX_ticksOfTreatment, ho, ha, hv], by simp [bM_one_194, bM_one_190, bM_one_182, bM_one_178, bM_one_175q, bM_one_173, bM_one_168, bM_one_167, bM_one_163, bM_one_146, bM_one_138, bM_one_128, bM_one_120, bM_one_111, bM_one_103, bM_one_92, ho, ha, hv2], Or.inl ⟨rfl, fun _ => hv⟩⟩
      · have hv2 : e = 600 * v0 3 := Classical.not_not.mp (fun q => hv ((hov rfl).mpr q))
        exact ⟨1, 4, 0, by simp [bX_makeTick_112, bX_makeTick_108, bX_makeTick_100, bX_makeTick_92, bX_makeTick_89q, bX_makeTick_88, bX_countTowardsEnd_74q, bX_countTowardsEnd_72, bX_countTowardsEnd_61, bX_countTowardsEnd_53, bX_countTowardsEnd_43, bX_countTowardsEnd_34, bX_countTowardsEnd_30, bX_countTowardsEnd_21, bX_countTowardsEnd_20, bX_countTowardsEnd_16, bX_countTowardsEnd_8, bX_countTowardsEnd_0, sX_countTowardsEnd, bX_ticksOfTreatment_0, sX_ticksOfTreatment, bX_beginPhase_15, bX_beginPhase_0, sX_beginPhase, ho, ha, hv], by simp [bM_one_194, bM_one_190, bM_one_182, bM_one_178, bM_one_175q, bM_one_173, bM_one_168, bM_one_167, bM_one_163, bM_one_146, bM_one_138, bM_one_128, bM_one_120, bM_one_111, bM_one_103, bM_one_92, bM_enter_15, bM_enter_0, sM_enter, ho, ha, hv2], Or.inr ⟨rfl, rfl⟩⟩
    · rcases hp with rfl | rfl | rfl | rfl | rfl | rfl | rfl
      all_goals first
        | exact ⟨1, _, _, by simp [bX_makeTick_112, bX_makeTick_108, bX_makeTick_100, bX_makeTick_92, bX_makeTick_89q, bX_makeTick_88, bX_countTowardsEnd_74q, bX_countTowardsEnd_72, bX_countTowardsEnd_61, bX_countTowardsEnd_53, bX_countTowardsEnd_43, bX_countTowardsEnd_34, bX_countTowardsEnd_30, bX_countTowardsEnd_21, bX_countTowardsEnd_20, bX_countTowardsEnd_16, bX_countTowardsEnd_8, bX_countTowardsEnd_0, sX_countTowardsEnd, ho, ha]; rfl, by simp [bM_one_194, bM_one_190, bM_one_182, bM_one_178, bM_one_175q, bM_one_173, bM_one_168, bM_one_167, bM_one_163, bM_one_146, bM_one_138, bM_one_128, bM_one_120, bM_one_111, bM_one_103, bM_one_92, ho, ha], Or.inl ⟨rfl, fun q => absurd q (by decide)⟩⟩
        | skip
      by_cases hv : e < 600 * v0 3
      · have hv2 := (hov rfl).mp hv
        exact ⟨1, 3, cnt, by simp [bX_makeTick_112, bX_makeTick_108, bX_makeTick_100, bX_makeTick_92, bX_makeTick_89q, bX_makeTick_88, bX_countTowardsEnd_74q, bX_countTowardsEnd_72, bX_countTowardsEnd_61, bX_countTowardsEnd_53, bX_countTowardsEnd_43, bX_countTowardsEnd_34, bX_countTowardsEnd_30, bX_countTowardsEnd_21, bX_countTowardsEnd_20, bX_countTowardsEnd_16, bX_countTowardsEnd_8, bX_countTowardsEnd_0, sX_countTowardsEnd, bX_ticksOfTreatment_0, sX_ticksOfTreatment, ho, ha, hv], by simp [bM_one_194, bM_one_190, bM_one_182, bM_one_178, bM_one_175q, bM_one_173, bM_one_168, bM_one_167, bM_one_163, bM_one_146, bM_one_138, bM_one_128, bM_one_120, bM_one_111, bM_one_103, bM_one_92, ho, ha, hv2], Or.inl ⟨rfl, fun _ => hv⟩⟩
      · have hv2 : e = 600 * v0 3 := Classical.not_not.mp (fun q => hv ((hov rfl).mpr q))
        exact ⟨1, 4, 0, by simp [bX_makeTick_112, bX_makeTick_108, bX_makeTick_100, bX_makeTick_92, bX_makeTick_89q, bX_makeTick_88, bX_countTowardsEnd_74q, bX_countTowardsEnd_72, bX_countTowardsEnd_61, bX_countTowardsEnd_53, bX_countTowardsEnd_43, bX_countTowardsEnd_34, bX_countTowardsEnd_30, bX_countTowardsEnd_21, bX_countTowardsEnd_20, bX_countTowardsEnd_16, bX_countTowardsEnd_8, bX_countTowardsEnd_0, sX_countTowardsEnd, bX_ticksOfTreatment_0, sX_ticksOfTreatment, bX_beginPhase_15, bX_beginPhase_0, sX_beginPhase, ho, ha, hv], by simp [bM_one_194, bM_one_190, bM_one_182, bM_one_178, bM_one_175q, bM_one_173, bM_one_168, bM_one_167, bM_one_163, bM_one_146, bM_one_138, bM_one_128, bM_one_120, bM_one_111, bM_one_103, bM_one_92, bM_enter_15, bM_enter_0, sM_enter, ho, ha, hv2], Or.inr ⟨rfl, rfl⟩⟩
def rel (x : SX) (y : SM) : Prop := match x with
  | (g4, g5, g6, g7, g8, g9, g10, g11, g12, g13, g14, g15, g16, g17, r0, r1, r2, r3) => match y with
    | (p3, p4, p5, p6, p7, p8, p10, p11, p12, p13, p14, p15, p16, p17, p18, v0, v1, v2, v9) => g4 = p3 ∧ g5 = p4 ∧ g6 = p5 ∧ g7 = p6 ∧ g8 = p7 ∧ g9 = p14 ∧ g10 = 500 * p15 ∧ g11 = p16 ∧ g12 = p17 ∧ g13 = p18 ∧ g14 = p8 - p13 ∧ g15 = p8 - p12 ∧ g16 = p8 - p10 ∧ g17 = p8 - p11 ∧ r0 = v0 ∧ r1 = v1 ∧ r2 = v2 ∧ ∀ j, j < 6 → r3 j = p8 - v9 j
def inv (N : Nat) (y : SM) : Prop := match y with
  | (p3, p4, p5, _, p7, p8, _, _, p12, p13, p14, p15, _, _, _, v0, _, v2, _) => ∃ T F a b E C : Nat, T ≤ N ∧ F ≤ 6 ∧ p3 = nI F ∧ p8 = nI T ∧ a ≤ T ∧ p12 = nI a ∧ b ≤ T ∧ p13 = nI b ∧ E ≤ T ∧ p14 = nI E ∧ C ≤ T ∧ p15 = nI C ∧ (∃ k, k < 64 ∧ p4 = nI k) ∧ (∃ k, k < 64 ∧ p5 = nI k) ∧ (p7 = -1 ∨ ∃ k, k < 16 ∧ p7 = nI k) ∧ (∀ j, j < 10 → tPL j ≤ v0 j ∧ v0 j ≤ tPG j) ∧ (∀ j, j < 6 → tSL j ≤ v2 j ∧ v2 j ≤ tSG j) ∧ (F = 3 → ∀ M : Nat, M ≤ 600 → v0 3 = nI M → E < 600 * M)
theorem nI_rg {x : Int32} {lo hi : Nat} (h1 : nI lo ≤ x) (h2 : x ≤ nI hi) (hlo : lo < 2 ^ 31) (hhi : hi < 2 ^ 31) : ∃ k, lo ≤ k ∧ k ≤ hi ∧ x = nI k := by
  obtain ⟨k, hk, rfl⟩ := nI_of (x := x) (by
    rw [i_lt, show (0 : Int32).toInt = 0 from rfl]
    rw [i_le, nI_toInt hlo] at h1
    omega)
  exact ⟨k, (nI_leI hlo hk).mp h1, (nI_leI hk hhi).mp h2, rfl⟩
theorem or64 {a b : Int32} (ha : ∃ k, k < 64 ∧ a = nI k) (hb : ∃ k, k < 64 ∧ b = nI k) : ∃ k, k < 64 ∧ a ||| b = nI k := by
  obtain ⟨i, hi, rfl⟩ := ha
  obtain ⟨j, hj, rfl⟩ := hb
  have key : ∀ i, i < 64 → ∀ j, j < 64 → (nI i ||| nI j).toNatClampNeg < 64 ∧ nI i ||| nI j = nI (nI i ||| nI j).toNatClampNeg := by decide +kernel
  exact ⟨_, (key i hi j hj).1, (key i hi j hj).2⟩
theorem ph7 {p : Int32} {F : Nat} (hF : F ≤ 6) (h : p = nI F) : p = 0 ∨ p = 1 ∨ p = 2 ∨ p = 3 ∨ p = 4 ∨ p = 5 ∨ p = 6 := by
  rcases (show F = 0 ∨ F = 1 ∨ F = 2 ∨ F = 3 ∨ F = 4 ∨ F = 5 ∨ F = 6 by omega) with rfl | rfl | rfl | rfl | rfl | rfl | rfl
  · exact Or.inl h
  · exact Or.inr (Or.inl h)
  · exact Or.inr (Or.inr (Or.inl h))
  · exact Or.inr (Or.inr (Or.inr (Or.inl h)))
  · exact Or.inr (Or.inr (Or.inr (Or.inr (Or.inl h))))
  · exact Or.inr (Or.inr (Or.inr (Or.inr (Or.inr (Or.inl h)))))
  · exact Or.inr (Or.inr (Or.inr (Or.inr (Or.inr (Or.inr h)))))
theorem mk_eq (g4 g5 g6 g7 g8 g9 g10 g11 g12 g13 g14 g15 g16 g17 : Int32) (r0 r1 r2 r3 : Nat → Int32) : sX_makeTick g4 g5 g6 g7 g8 g9 g10 g11 g12 g13 g14 g15 g16 g17 r0 r1 r2 r3 = bX_makeTick_18 g4 g5 g6 g7 g8 g9 g10 g11 g12 g13 (if offX r0 (cN r1 r2 0) = 0 then g14 + 1 else 0) (if offX r0 (cN r1 r2 0) = 0 then 0 else g15 + 1) (if onP g4 = 0 then 0 else if sX_isOutside (cN r1 r2 0 0) (r0 6) (r0 7) = 0 then 0 else g16 + 1) (if onP g4 = 0 then 0 else if sX_isOutside (cN r1 r2 0 1) (r0 8) (r0 9) = 0 then 0 else g17 + 1) r0 r1 (cN r1 r2 0) (iN r1 r3 0) g5 g4 := by
  unfold sX_makeTick bX_makeTick_0
  rw [cS_eq]
  show bX_makeTick_15q g5 g4 (sX_countTicksInARow g4 g5 g6 g7 g8 g9 g10 g11 g12 g13 g14 g15 g16 g17 r0 r1 (cN r1 r2 0) (iN r1 r3 0)) = _
  rw [ct_eq]
  rfl
theorem on_eq (g3 g4 g5 g6 g7 g8 g10 g11 g12 g13 g14 g15 g16 g17 g18 : Int32) (r0 r1 r2 r9 : Nat → Int32) : sM_one g3 g4 g5 g6 g7 g8 g10 g11 g12 g13 g14 g15 g16 g17 g18 r0 r1 r2 r9 = bM_one_19 g3 g4 g5 g6 g7 (g8 + 1) (if onP g3 = 0 then g8 + 1 else if sX_isOutside (cN r1 r2 0 0) (r0 6) (r0 7) = 0 then g8 + 1 else g10) (if onP g3 = 0 then g8 + 1 else if sX_isOutside (cN r1 r2 0 1) (r0 8) (r0 9) = 0 then g8 + 1 else g11) (if offM r0 (cN r1 r2 0) = 0 then g8 + 1 else g12) (if offM r0 (cN r1 r2 0) = 0 then g13 else g8 + 1) g14 g15 g16 g17 g18 r0 r1 (cN r1 r2 0) (pN r1 r9 (g8 + 1) 0) g4 := by
  unfold sM_one bM_one_0
  rw [cM_eq, cdM_eq]
  rfl
theorem half2 {p3 p4 p5 p6 p7 n m10 m11 m12 m13 p14 p15 p16 p17 p18 s14 : Int32} {v0 v1 v2 i3 q9 : Nat → Int32} {V E C M : Nat} (hp : p3 = 0 ∨ p3 = 1 ∨ p3 = 2 ∨ p3 = 3 ∨ p3 = 4 ∨ p3 = 5 ∨ p3 = 6) (h4 : ∃ k, k < 64 ∧ p4 = nI k) (h7 : p7 = -1 ∨ ∃ k, k < 16 ∧ p7 = nI k) (hB : (0 < n - m12) ↔ (m13 = n)) (h1 : v0 1 = nI V) (h3 : v0 3 = nI M) (he : p14 = nI E) (hc : p15 = nI C) (hV : V ≤ 6000) (hE : E < 400000) (hC : C < 400000) (hM0 : 1 ≤ M) (hM : M ≤ 600) (hj : ∀ j, j < 6 → i3 j = n - q9 j) (hE3 : p3 = 3 → E < 600 * M) :
    ∃ r p' a' cn o e' c' st' t' cnt', bX_makeTick_18 p3 p4 p5 p6 p7 p14 (500 * p15) p16 p17 p18 s14 (n - m12) (n - m10) (n - m11) v0 v1 v2 i3 p4 p3 = (r, (p', a', cn, o, p7, e', 500 * c', st', t', cnt', s14, n - m12, n - m10, n - m11, v0, v1, v2, i3)) ∧ bM_one_19 p3 p4 p5 p6 p7 n m10 m11 m12 m13 p14 p15 p16 p17 p18 v0 v1 v2 q9 p4 = (r, (p', a', cn, o, p7, n, m10, m11, m12, m13, e', c', st', t', cnt', v0, v1, v2, q9)) ∧ (∃ k, k < 64 ∧ a' = nI k) ∧ (∃ k, k < 64 ∧ cn = nI k) ∧ (∃ E', (E' = E ∨ E' = E + 1) ∧ e' = nI E' ∧ ((p' = p3 ∧ (p3 = 3 → E' < 600 * M)) ∨ (p3 = 3 ∧ p' = 4))) ∧ (c' = p15 ∨ c' = p15 + 1) := by
  have hcn : sX_conditionsNow p3 p4 p5 p6 p7 p14 (500 * p15) p16 p17 p18 s14 (n - m12) (n - m10) (n - m11) v0 v1 v2 i3 = sM_conditionsNow p3 p4 p5 p6 p7 n m10 m11 m12 m13 p14 p15 p16 p17 p18 v0 v1 v2 q9 := by
    rw [cnX_eq, cnM_eq, fB_congr hj 6 (Nat.le_refl _)]
    exact (t_ok _ _ _ _ _ _ 0 _).1
  have hcb : ∃ k, k < 64 ∧ sM_conditionsNow p3 p4 p5 p6 p7 n m10 m11 m12 m13 p14 p15 p16 p17 p18 v0 v1 v2 q9 = nI k := by
    rw [cnM_eq]
    exact (t_ok _ _ _ _ _ _ 0 _).2
  unfold bX_makeTick_18 bM_one_19
  rw [hcn]
  generalize sM_conditionsNow p3 p4 p5 p6 p7 n m10 m11 m12 m13 p14 p15 p16 p17 p18 v0 v1 v2 q9 = cn at hcb
  have ha := or64 h4 hcb
  generalize p4 ||| cn = a at ha
  obtain ⟨cmd, e', c', q1, q2, hcmd, hec⟩ := cmd_ok (p3 := p3) (a := a) (cn := cn) (p6 := p6) (p7 := p7) (n := n) (m10 := m10) (m11 := m11) (m12 := m12) (m13 := m13) (p14 := p14) (p15 := p15) (p16 := p16) (p17 := p17) (p18 := p18) (s14 := s14) (s15 := n - m12) (s16 := n - m10) (s17 := n - m11) (v0 := v0) (v1 := v1) (c := v2) (i3 := i3) (q9 := q9) ha hB h1 h3 he hc hV hE hC hM0 hM
  rw [q1, q2]
  obtain ⟨z, hz, zX, zM⟩ : ∃ z, (∃ m, m < 16 ∧ z = nI m) ∧ bX_makeTick_40q p4 p3 (cmd, (p3, a, cn, p6, p7, e', 500 * c', p16, p17, p18, s14, n - m12, n - m10, n - m11, v0, v1, v2, i3)) = bX_makeTick_62 p3 a cn p6 p7 e' (500 * c') p16 p17 p18 s14 (n - m12) (n - m10) (n - m11) v0 v1 v2 i3 p4 p3 z ∧ bM_one_41q p4 (cmd, (p3, a, cn, p6, p7, n, m10, m11, m12, m13, e', c', p16, p17, p18, v0, v1, v2, q9)) = bM_one_62 p3 a cn p6 p7 n m10 m11 m12 m13 e' c' p16 p17 p18 v0 v1 v2 q9 p4 z := by
    rcases h7 with rfl | ⟨k, hk, rfl⟩
    · exact ⟨cmd, hcmd, rfl, rfl⟩
    · have d1 : ∀ k, k < 16 → ¬ nI k = (-1) ∧ (0 : Int32) ≤ nI k := by decide +kernel
      refine ⟨nI k, ⟨k, hk, rfl⟩, ?_, ?_⟩
      · show bX_makeTick_43 p3 a cn p6 (nI k) e' (500 * c') p16 p17 p18 s14 (n - m12) (n - m10) (n - m11) v0 v1 v2 i3 p4 p3 cmd = _
        unfold bX_makeTick_43
        rw [if_neg (d1 k hk).1]
        rfl
      · show bM_one_44 p3 a cn p6 (nI k) n m10 m11 m12 m13 e' c' p16 p17 p18 v0 v1 v2 q9 p4 cmd = _
        unfold bM_one_44
        rw [if_pos (d1 k hk).2]
        rfl
  rw [zX, zM]
  unfold bX_makeTick_62 bM_one_62
  obtain ⟨o, t', o1, o2⟩ := prot_ok (p3 := p3) (a := a) (cn := cn) (p6 := p6) (p7 := p7) (n := n) (m10 := m10) (m11 := m11) (m12' := m12) (m13 := m13) (p14 := e') (p15 := c') (p16 := p16) (p17 := p17) (p18 := p18) (s14 := s14) (s15 := n - m12) (s16 := n - m10) (s17 := n - m11) (e10 := 500 * c') (v0 := v0) (v1 := v1) (c := v2) (i3 := i3) (q9 := q9) hz
  rw [o1, o2]
  obtain ⟨E', hE1, hE2⟩ : ∃ E', (E' = E ∨ (p3 = 3 ∧ E' = E + 1)) ∧ e' = nI E' := by
    rcases hec with ⟨rfl, -⟩ | ⟨h, rfl, -⟩
    · exact ⟨E, Or.inl rfl, he⟩
    · exact ⟨E + 1, Or.inr ⟨h, rfl⟩, by rw [he, nI_1]⟩
  have hc' : c' = p15 ∨ c' = p15 + 1 := by
    rcases hec with ⟨-, rfl⟩ | ⟨-, -, h⟩
    · exact Or.inl rfl
    · exact h
  have h6 : (600 : Int32) * v0 3 = nI (600 * M) := by rw [h3, show (600 : Int32) = nI 600 from rfl, pk_mul]
  have hov : p3 = 3 → ((e' < 600 * v0 3) ↔ ¬ (e' = 600 * v0 3)) := by
    intro h
    have hle : E' ≤ 600 * M := by
      have := hE3 h
      rcases hE1 with rfl | ⟨-, rfl⟩ <;> omega
    rw [h6, hE2, nI_ltI (by omega) (by omega), nI_eq (by omega) (by omega)]
    omega
  obtain ⟨st', sX1, sM1⟩ : ∃ st', bX_makeTick_62q p4 p3 (o, (p3, a, cn, p6, p7, e', 500 * c', p16, t', p18, s14, n - m12, n - m10, n - m11, v0, v1, v2, i3)) = bX_makeTick_88 p3 a cn o p7 e' (500 * c') st' t' p18 s14 (n - m12) (n - m10) (n - m11) v0 v1 v2 i3 p4 p3 ∧ bM_one_62q p4 (o, (p3, a, cn, p6, p7, n, m10, m11, m12, m13, e', c', p16, t', p18, v0, v1, v2, q9)) = bM_one_92 p3 a cn o p7 n m10 m11 m12 m13 e' c' st' t' p18 v0 v1 v2 q9 p4 st' := by
    by_cases h : o &&& 8 = 0
    · refine ⟨p16, ?_, ?_⟩
      · show bX_makeTick_65 p3 a cn p6 p7 e' (500 * c') p16 t' p18 s14 (n - m12) (n - m10) (n - m11) v0 v1 v2 i3 p4 p3 o = _
        unfold bX_makeTick_65
        rw [if_pos h]
      · show bM_one_65 p3 a cn p6 p7 n m10 m11 m12 m13 e' c' p16 t' p18 v0 v1 v2 q9 p4 o = _
        unfold bM_one_65
        rw [if_pos h]
        rfl
    · refine ⟨p16 + 1, ?_, ?_⟩
      · show bX_makeTick_65 p3 a cn p6 p7 e' (500 * c') p16 t' p18 s14 (n - m12) (n - m10) (n - m11) v0 v1 v2 i3 p4 p3 o = _
        unfold bX_makeTick_65
        rw [if_neg h]
        rfl
      · show bM_one_65 p3 a cn p6 p7 n m10 m11 m12 m13 e' c' p16 t' p18 v0 v1 v2 q9 p4 o = _
        unfold bM_one_65
        rw [if_neg h]
        rfl
  rw [sX1, sM1]
  obtain ⟨r, p', cnt', w1, w2, w3⟩ := end_ok (a := a) (cn := cn) (o := o) (p7 := p7) (n := n) (m10 := m10) (m11 := m11) (m12 := m12) (m13 := m13) (e := e') (c := c') (st := st') (t := t') (cnt := p18) (s14 := s14) (s15 := n - m12) (s16 := n - m10) (s17 := n - m11) (a0 := p4) (v0 := v0) (v1 := v1) (v2 := v2) (i3 := i3) (q9 := q9) hp hov
  refine ⟨r, p', a, cn, o, e', c', st', t', cnt', w1, w2, ha, hcb, ⟨E', ?_, hE2, ?_⟩, hc'⟩
  · rcases hE1 with h | ⟨-, h⟩
    · exact Or.inl h
    · exact Or.inr h
  · rcases w3 with ⟨h, h'⟩ | h
    · refine Or.inl ⟨h, fun q => ?_⟩
      have := h' q
      have hle : E' ≤ 600 * M := by
        have := hE3 q
        rcases hE1 with rfl | ⟨-, rfl⟩ <;> omega
      rw [h6, hE2, nI_ltI (by omega) (by omega)] at this
      exact this
    · exact Or.inr h
theorem tick_ok {g4 g5 g6 g7 g8 g9 g10 g11 g12 g13 g14 g15 g16 g17 : Int32} {r0 r1 r2 r3 : Nat → Int32} {p3 p4 p5 p6 p7 p8 p10 p11 p12 p13 p14 p15 p16 p17 p18 : Int32} {v0 v1 v2 v9 : Nat → Int32} {N : Nat} (hR : rel (g4, g5, g6, g7, g8, g9, g10, g11, g12, g13, g14, g15, g16, g17, r0, r1, r2, r3) (p3, p4, p5, p6, p7, p8, p10, p11, p12, p13, p14, p15, p16, p17, p18, v0, v1, v2, v9)) (hI : inv N (p3, p4, p5, p6, p7, p8, p10, p11, p12, p13, p14, p15, p16, p17, p18, v0, v1, v2, v9)) (hN : N < 399999) :
    (sX_makeTick g4 g5 g6 g7 g8 g9 g10 g11 g12 g13 g14 g15 g16 g17 r0 r1 r2 r3).1 = (sM_one p3 p4 p5 p6 p7 p8 p10 p11 p12 p13 p14 p15 p16 p17 p18 v0 v1 v2 v9).1 ∧ rel (sX_makeTick g4 g5 g6 g7 g8 g9 g10 g11 g12 g13 g14 g15 g16 g17 r0 r1 r2 r3).2 (sM_one p3 p4 p5 p6 p7 p8 p10 p11 p12 p13 p14 p15 p16 p17 p18 v0 v1 v2 v9).2 ∧ inv (N + 1) (sM_one p3 p4 p5 p6 p7 p8 p10 p11 p12 p13 p14 p15 p16 p17 p18 v0 v1 v2 v9).2 := by
  obtain ⟨rfl, rfl, rfl, rfl, rfl, rfl, rfl, rfl, rfl, rfl, rfl, rfl, rfl, rfl, rfl, rfl, rfl, hr3⟩ := hR
  obtain ⟨T, F, a, b, E, C, hT, hF, e3, e8, ha, e12, hb, e13, hE, e14, hC, e15, h4, h5, h7, hv, hs, hE3⟩ := hI
  obtain ⟨V, -, hV, eV⟩ := nI_rg (x := r0 1) (lo := 0) (hi := 6000) (hv 1 (by decide)).1 (hv 1 (by decide)).2 (by decide) (by decide)
  obtain ⟨M, hM0, hM, eM⟩ := nI_rg (x := r0 3) (lo := 1) (hi := 600) (hv 3 (by decide)).1 (hv 3 (by decide)).2 (by decide) (by decide)
  obtain ⟨d4, -, hd4, ed4⟩ := nI_rg (x := r0 4) (lo := 340) (hi := 390) (hv 4 (by decide)).1 (hv 4 (by decide)).2 (by decide) (by decide)
  obtain ⟨d5, -, hd5, ed5⟩ := nI_rg (x := r0 5) (lo := 1250) (hi := 1600) (hv 5 (by decide)).1 (hv 5 (by decide)).2 (by decide) (by decide)
  have hs' : ∀ j, j < 6 → tSL j ≤ cN r1 r2 0 j ∧ cN r1 r2 0 j ≤ tSG j := by
    intro j hj
    unfold cN
    by_cases h : 0 ≤ j ∧ j < 6 ∧ ¬ bad r1 j
    · rw [if_pos h]
      have h1 := h.2.2
      unfold bad at h1
      rw [not_or, i_lt, i_lt] at h1
      rw [i_le, i_le]
      omega
    · rw [if_neg h]
      exact hs j hj
  obtain ⟨f2, -, hf2, ef2⟩ := nI_rg (x := cN r1 r2 0 2) (lo := 0) (hi := 600) (hs' 2 (by decide)).1 (hs' 2 (by decide)).2 (by decide) (by decide)
  obtain ⟨f3, -, hf3, ef3⟩ := nI_rg (x := cN r1 r2 0 3) (lo := 0) (hi := 3000) (hs' 3 (by decide)).1 (hs' 3 (by decide)).2 (by decide) (by decide)
  have hoff : offX r0 (cN r1 r2 0) = offM r0 (cN r1 r2 0) := off_eq ef2 ed4 ef3 ed5 (by omega) (by omega) (by omega) (by omega)
  have x14 : (if offM r0 (cN r1 r2 0) = 0 then p8 - p13 + 1 else 0) = (p8 + 1) - (if offM r0 (cN r1 r2 0) = 0 then p13 else p8 + 1) := by
    split <;> grind
  have x15 : (if offM r0 (cN r1 r2 0) = 0 then 0 else p8 - p12 + 1) = (p8 + 1) - (if offM r0 (cN r1 r2 0) = 0 then p8 + 1 else p12) := by
    split <;> grind
  have x16 : (if onP g4 = 0 then 0 else if sX_isOutside (cN r1 r2 0 0) (r0 6) (r0 7) = 0 then 0 else p8 - p10 + 1) = (p8 + 1) - (if onP g4 = 0 then p8 + 1 else if sX_isOutside (cN r1 r2 0 0) (r0 6) (r0 7) = 0 then p8 + 1 else p10) := by
    split
    · grind
    · split <;> grind
  have x17 : (if onP g4 = 0 then 0 else if sX_isOutside (cN r1 r2 0 1) (r0 8) (r0 9) = 0 then 0 else p8 - p11 + 1) = (p8 + 1) - (if onP g4 = 0 then p8 + 1 else if sX_isOutside (cN r1 r2 0 1) (r0 8) (r0 9) = 0 then p8 + 1 else p11) := by
    split
    · grind
    · split <;> grind
  have hj : ∀ j, j < 6 → iN r1 r3 0 j = (p8 + 1) - pN r1 v9 (p8 + 1) 0 j := by
    intro j hj
    unfold iN pN
    rw [if_pos ⟨Nat.zero_le _, hj⟩]
    by_cases h : bad r1 j
    · rw [if_pos h, if_neg (fun q => q.2.2 h), hr3 j hj]
      grind
    · rw [if_neg h, if_pos ⟨Nat.zero_le _, hj, h⟩]
      grind
  have e8' : p8 + 1 = nI (T + 1) := by rw [e8, nI_1]
  have hB : (0 < (p8 + 1) - (if offM r0 (cN r1 r2 0) = 0 then p8 + 1 else p12)) ↔ ((if offM r0 (cN r1 r2 0) = 0 then p13 else p8 + 1) = p8 + 1) := by
    rw [e8', e12, e13]
    by_cases h : offM r0 (cN r1 r2 0) = 0
    · rw [if_pos h, if_pos h, nI_eq (by omega) (by omega), pk_sub (by omega), i_lt, nI_toInt (by omega), show (0 : Int32).toInt = 0 from rfl]
      omega
    · rw [if_neg h, if_neg h, pk_sub (by omega), i_lt, nI_toInt (by omega), show (0 : Int32).toInt = 0 from rfl]
      refine ⟨fun _ => rfl, fun _ => ?_⟩
      omega
  have hp := ph7 hF e3
  rw [mk_eq, on_eq, hoff, x14, x15, x16, x17]
  obtain ⟨r, p', a', cn, o, e', c', st', t', cnt', w1, w2, ha', hcn', ⟨E', hE1, hE2, hE4⟩, hc'⟩ := half2 (p3 := g4) (p4 := g5) (p5 := g6) (p6 := g7) (p7 := g8) (n := p8 + 1) (m10 := if onP g4 = 0 then p8 + 1 else if sX_isOutside (cN r1 r2 0 0) (r0 6) (r0 7) = 0 then p8 + 1 else p10) (m11 := if onP g4 = 0 then p8 + 1 else if sX_isOutside (cN r1 r2 0 1) (r0 8) (r0 9) = 0 then p8 + 1 else p11) (m12 := if offM r0 (cN r1 r2 0) = 0 then p8 + 1 else p12) (m13 := if offM r0 (cN r1 r2 0) = 0 then p13 else p8 + 1) (p14 := g9) (p15 := p15) (p16 := g11) (p17 := g12) (p18 := g13) (s14 := (p8 + 1) - (if offM r0 (cN r1 r2 0) = 0 then p13 else p8 + 1)) (v0 := r0) (v1 := r1) (v2 := cN r1 r2 0) (i3 := iN r1 r3 0) (q9 := pN r1 v9 (p8 + 1) 0) (V := V) (E := E) (C := C) (M := M) hp h4 h7 hB eV eM e14 e15 hV (by omega) (by omega) hM0 hM hj (fun q => hE3 (by
    rw [e3, show (3 : Int32) = nI 3 from rfl] at q
    exact (nI_eq (by omega) (by decide)).mp q) M hM eM)
  rw [w1, w2]
  refine ⟨rfl, ⟨rfl, rfl, rfl, rfl, rfl, rfl, rfl, rfl, rfl, rfl, rfl, rfl, rfl, rfl, rfl, rfl, rfl, hj⟩, ?_⟩
  obtain ⟨F', hF', eF', hF3⟩ : ∃ F', F' ≤ 6 ∧ p' = nI F' ∧ (F' = 3 → E' < 600 * M) := by
    rcases hE4 with ⟨rfl, h⟩ | ⟨-, rfl⟩
    · exact ⟨F, hF, e3, fun q => h (by rw [e3, q]; rfl)⟩
    · exact ⟨4, by decide, rfl, fun q => absurd q (by decide)⟩
  obtain ⟨C', hC', eC'⟩ : ∃ C', C' ≤ T + 1 ∧ c' = nI C' := by
    rcases hc' with rfl | rfl
    · exact ⟨C, by omega, e15⟩
    · exact ⟨C + 1, by omega, by rw [e15, nI_1]⟩
  refine ⟨T + 1, F', if offM r0 (cN r1 r2 0) = 0 then T + 1 else a, if offM r0 (cN r1 r2 0) = 0 then b else T + 1, E', C', by omega, hF', eF', e8', ?_, ?_, ?_, ?_, by omega, hE2, hC', eC', ha', hcn', h7, hv, hs', fun q M' hM' eM' => ?_⟩
  · split <;> omega
  · split
    · exact e8'
    · exact e12
  · split <;> omega
  · split
    · exact e13
    · exact e8'
  · have : M' = M := (nI_eq (by omega) (by omega)).mp (eM'.symm.trans eM)
    subst this
    exact hF3 q
