theorem getD0 {l : List Int32} {j : Nat} (h : l.length ≤ j) : l.getD j 0 = 0 := by
  rw [List.getD_eq_getElem?_getD, List.getElem?_eq_none h]
  rfl
set_option maxRecDepth 100000 in
theorem sM_init_ch : sM_init = (0, 0, 0, 0, (-1), 0, 0, 0, 0, 0, 0, 0, 0, 0, 0, upd (upd (upd (upd (upd (upd (upd (upd (upd (upd (fun _ => 0) 0 300) 1 0) 2 1000) 3 240) 4 370) 5 1400) 6 (-200)) 7 100) 8 50) 9 300, upd (upd (upd (upd (upd (upd (fun _ => 0) 0 0) 1 100) 2 370) 3 1400) 4 0) 5 0, upd (upd (upd (upd (upd (upd (fun _ => 0) 0 0) 1 100) 2 370) 3 1400) 4 0) 5 0, fun _ => 0) := by rfl
theorem chP : upd (upd (upd (upd (upd (upd (upd (upd (upd (upd (fun _ => 0) 0 300) 1 0) 2 1000) 3 240) 4 370) 5 1400) 6 (-200)) 7 100) 8 50) 9 300 = tPF := by
  funext j
  by_cases h : j < 10
  · rcases (show j = 0 ∨ j = 1 ∨ j = 2 ∨ j = 3 ∨ j = 4 ∨ j = 5 ∨ j = 6 ∨ j = 7 ∨ j = 8 ∨ j = 9 by omega) with rfl | rfl | rfl | rfl | rfl | rfl | rfl | rfl | rfl | rfl <;> rfl
  · rw [pk_un (by omega), pk_un (by omega), pk_un (by omega), pk_un (by omega), pk_un (by omega), pk_un (by omega), pk_un (by omega), pk_un (by omega), pk_un (by omega), pk_un (by omega)]
    exact (getD0 (by simp only [List.length_cons, List.length_nil]; omega)).symm
theorem chS : upd (upd (upd (upd (upd (upd (fun _ => 0) 0 0) 1 100) 2 370) 3 1400) 4 0) 5 0 = tSF := by
  funext j
  by_cases h : j < 6
  · rcases (show j = 0 ∨ j = 1 ∨ j = 2 ∨ j = 3 ∨ j = 4 ∨ j = 5 by omega) with rfl | rfl | rfl | rfl | rfl | rfl <;> rfl
  · rw [pk_un (by omega), pk_un (by omega), pk_un (by omega), pk_un (by omega), pk_un (by omega), pk_un (by omega)]
    exact (getD0 (by simp only [List.length_cons, List.length_nil]; omega)).symm
theorem sM_init_eq : sM_init = (0, 0, 0, 0, (-1), 0, 0, 0, 0, 0, 0, 0, 0, 0, 0, tPF, tSF, tSF, fun _ => 0) := by rw [sM_init_ch, chP, chS]
theorem ini_rel : rel sX_init sM_init := by
  rw [sM_init_eq]
  exact ⟨rfl, rfl, rfl, rfl, rfl, rfl, by decide +kernel, rfl, rfl, rfl, by decide +kernel, by decide +kernel, by decide +kernel, by decide +kernel, rfl, rfl, rfl, fun j _ => by show (0 : Int32) = 0 - 0; decide +kernel⟩
theorem ini_inv : inv 0 sM_init := by
  rw [sM_init_eq]
  exact ⟨0, 0, 0, 0, 0, 0, Nat.le_refl _, by decide, rfl, rfl, Nat.le_refl _, rfl, Nat.le_refl _, rfl, Nat.le_refl _, rfl, Nat.le_refl _, rfl, ⟨0, by decide, rfl⟩, ⟨0, by decide, rfl⟩, Or.inl rfl, by decide +kernel, by decide +kernel, fun q => absurd q (by decide)⟩
theorem inv_hV {p3 p4 p5 p6 p7 p8 p10 p11 p12 p13 p14 p15 p16 p17 p18 : Int32} {v0 v1 v2 v9 : Nat → Int32} {N : Nat} (h : inv N (p3, p4, p5, p6, p7, p8, p10, p11, p12, p13, p14, p15, p16, p17, p18, v0, v1, v2, v9)) : hVof v0 := by
  obtain ⟨T, F, a, b, E, C, hT, hF, f3, f8, ha, f12, hb, f13, hE, f14, hC, f15, k4, k5', k7, hv, hs, hE3⟩ := h
  obtain ⟨M, hM0, hM, eM⟩ := nI_rg (x := v0 3) (lo := 1) (hi := 600) (hv 3 (by decide)).1 (hv 3 (by decide)).2 (by decide) (by decide)
  unfold hVof
  rw [eM, nI_l (by omega), show (600 : Int64) = lN 600 from rfl, lN_mul, show (0 : Int64) = lN 0 from rfl, pk_lEQ (by omega) (by decide)]
  omega
