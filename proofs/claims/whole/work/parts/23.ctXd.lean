abbrev rmX_ticksOfTreatment : Room := { frames := 0, cells := 0, slots := 0, locals := 0 }
set_option maxHeartbeats 4000000 in
set_option maxRecDepth 100000 in
theorem ctX_ticksOfTreatment (l : Launch) (D : va_G) (cI : ClassId) (h0 a0 a1 a2 a3 sz : Nat) (g4 g5 g6 g7 g8 g9 g10 g11 g12 g13 g14 g15 g16 g17 : Int32) (r0 r1 r2 r3 : Nat → Int32)   : Met l yX0_ticksOfTreatment wsX0_ticksOfTreatment rmX_ticksOfTreatment (va_Pc [.ref h0] (bw_pr D vwC2 [(cI, .int)] (wdX cI h0 a0 a1 a2 a3 g4 g5 g6 g7 g8 g9 g10 g11 g12 g13 g14 g15 g16 g17 r0 r1 r2 r3) sz (tbX (va_A (wdX cI h0 a0 a1 a2 a3 g4 g5 g6 g7 g8 g9 g10 g11 g12 g13 g14 g15 g16 g17 r0 r1 r2 r3) sz)))) (va_Qi (fun r u => r = sX_ticksOfTreatment g4 g5 g6 g7 g8 g9 g10 g11 g12 g13 g14 g15 g16 g17 r0 r1 r2 r3 ∧ u = (g4, g5, g6, g7, g8, g9, g10, g11, g12, g13, g14, g15, g16, g17, r0, r1, r2, r3)) (bw_at D vwC2 [(cI, .int)] (wfX cI h0 a0 a1 a2 a3) (va_A (wdX cI h0 a0 a1 a2 a3 g4 g5 g6 g7 g8 g9 g10 g11 g12 g13 g14 g15 g16 g17 r0 r1 r2 r3) sz)) (va_A (wdX cI h0 a0 a1 a2 a3 g4 g5 g6 g7 g8 g9 g10 g11 g12 g13 g14 g15 g16 g17 r0 r1 r2 r3) sz)) 0 0 (va_A (wdX cI h0 a0 a1 a2 a3 g4 g5 g6 g7 g8 g9 g10 g11 g12 g13 g14 g15 g16 g17 r0 r1 r2 r3) sz) := by
  refine Met.ofW (cc := cX0_ticksOfTreatment) (maxL := 1) (ret := (some .int)) (by decide) rfl ?_
  intro p e s m args below meth c s₁ B hml hv
  obtain ⟨rfl, hsz, hP, hK, hD0, hT⟩ := hv
  have hx := B.exec
  have hb := B.bytes
  have hr := B.returns
  have hts := atoms_spec (ws := wsX0_ticksOfTreatment) B.pre
  have hown : s.vm.findClass RX0 = some m.cls := findClass_of_methodNamed B.named
  have hlocks := B.notSynchronized
  subst hsz
  have hD := hD0.self (sz := s.heap.size)
  generalize hAe : va_A (wdX cI h0 a0 a1 a2 a3 g4 g5 g6 g7 g8 g9 g10 g11 g12 g13 g14 g15 g16 g17 r0 r1 r2 r3) s.heap.size = A at hD hT ⊢
  have hA : ∀ q : Nat, s.heap.size ≤ q → A q := fun q h => by rw [← hAe]; exact Or.inr h
  have hS : va_S A s.heap s.heap [] := va_S.rf
  have hl := lv_entry ([.ref h0]) (n := 1) (Nat.le_of_ble_eq_true rfl)
  rw [lg_entry_eq]
  generalize (lg_sl ([.ref h0]) ++ List.replicate (1 - (lg_sl ([.ref h0])).length) Slot.unset).toArray = ls at hl ⊢
  have hl : lv_has ls 1 [(0, .ref h0)] := hl
  generalize hX : sX_ticksOfTreatment g4 g5 g6 g7 g8 g9 g10 g11 g12 g13 g14 g15 g16 g17 r0 r1 r2 r3 = X
  refine bw_Q (fun Q hQ => ?_)
  have hinU : ∀ w ∈ wsX00, w ∈ wsX0_ticksOfTreatment := fun w h => List.mem_cons_of_mem _ (List.mem_append_right _ h)
  unfold sX_ticksOfTreatment at hX
  unfold bX_ticksOfTreatment_0 at hX
  refine lv_sipush (v := 600) hx hb dX0_ticksOfTreatment_0 (by decide +kernel) ?_
  refine lv_aload_n hx hb dX0_ticksOfTreatment_3 rfl (lv_at hl 0 rfl) ?_
  refine va_get (D := D) (ci := 0) (v := .ref a0) (C := RX0) (T := TX0) (N := 18) hx hb hts hinU hown hK hP 0 rfl rfl 0 (by decide) (hts (.fieldLink RX0 18 "BloodCircuitChannels" "parameters" "[I") (by decide +kernel)) (fun _ h9 => h9) rfl dX0_ticksOfTreatment_4 ?_
  refine lv_iconst (v := 3) hx hb dX0_ticksOfTreatment_7 (by decide +kernel) ?_
  refine bw_ld hx hb hK hP 1 0 rfl rfl 3 (by decide +kernel) (bw_in (by decide +kernel)) dX0_ticksOfTreatment_8 ?_
  refine lv_imul hx hb dX0_ticksOfTreatment_9 ?_
  subst hQ
  exact W.iret (v := 600 * (r0 3)) hx hb hr (fun t ht hW => ⟨⟨600 * (r0 3), (g4, g5, g6, g7, g8, g9, g10, g11, g12, g13, g14, g15, g16, g17, r0, r1, r2, r3), rfl, ⟨hX, rfl⟩, by rw [ht]; exact hP, va_K.moved hW.alike hK, hD⟩, hS.F ht⟩) hS.2.2 dX0_ticksOfTreatment_10
abbrev rmX_isStrokeWanted : Room := { frames := 1, cells := 0, slots := 0, locals := 20 }
set_option maxHeartbeats 4000000 in
set_option maxRecDepth 100000 in
theorem ctX_isStrokeWanted (l : Launch) (D : va_G) (cI : ClassId) (h0 a0 a1 a2 a3 sz : Nat) (g4 g5 g6 g7 g8 g9 g10 g11 g12 g13 g14 g15 g16 g17 : Int32) (r0 r1 r2 r3 : Nat → Int32)   : Met l yX0_isStrokeWanted wsX0_isStrokeWanted rmX_isStrokeWanted (va_Pc [.ref h0] (bw_pr D vwC2 [(cI, .int)] (wdX cI h0 a0 a1 a2 a3 g4 g5 g6 g7 g8 g9 g10 g11 g12 g13 g14 g15 g16 g17 r0 r1 r2 r3) sz (tbX (va_A (wdX cI h0 a0 a1 a2 a3 g4 g5 g6 g7 g8 g9 g10 g11 g12 g13 g14 g15 g16 g17 r0 r1 r2 r3) sz)))) (va_Qi (fun r u => r = sX_isStrokeWanted g4 g5 g6 g7 g8 g9 g10 g11 g12 g13 g14 g15 g16 g17 r0 r1 r2 r3 ∧ u = (g4, g5, g6, g7, g8, g9, g10, g11, g12, g13, g14, g15, g16, g17, r0, r1, r2, r3)) (bw_at D vwC2 [(cI, .int)] (wfX cI h0 a0 a1 a2 a3) (va_A (wdX cI h0 a0 a1 a2 a3 g4 g5 g6 g7 g8 g9 g10 g11 g12 g13 g14 g15 g16 g17 r0 r1 r2 r3) sz)) (va_A (wdX cI h0 a0 a1 a2 a3 g4 g5 g6 g7 g8 g9 g10 g11 g12 g13 g14 g15 g16 g17 r0 r1 r2 r3) sz)) 0 0 (va_A (wdX cI h0 a0 a1 a2 a3 g4 g5 g6 g7 g8 g9 g10 g11 g12 g13 g14 g15 g16 g17 r0 r1 r2 r3) sz) := by
  refine Met.ofW (cc := cX0_isStrokeWanted) (maxL := 3) (ret := (some .boolean)) (by decide) rfl ?_
  intro p e s m args below meth c s₁ B hml hv
  obtain ⟨rfl, hsz, hP, hK, hD0, hT⟩ := hv
  have hx := B.exec
  have hb := B.bytes
  have hr := B.returns
  have hts := atoms_spec (ws := wsX0_isStrokeWanted) B.pre
  have hown : s.vm.findClass RX0 = some m.cls := findClass_of_methodNamed B.named
  have hlocks := B.notSynchronized
  subst hsz
  have hD := hD0.self (sz := s.heap.size)
  generalize hAe : va_A (wdX cI h0 a0 a1 a2 a3 g4 g5 g6 g7 g8 g9 g10 g11 g12 g13 g14 g15 g16 g17 r0 r1 r2 r3) s.heap.size = A at hD hT ⊢
  have hA : ∀ q : Nat, s.heap.size ≤ q → A q := fun q h => by rw [← hAe]; exact Or.inr h
  have hS : va_S A s.heap s.heap [] := va_S.rf
  have hl := lv_entry ([.ref h0]) (n := 3) (Nat.le_of_ble_eq_true rfl)
  rw [lg_entry_eq]
  generalize (lg_sl ([.ref h0]) ++ List.replicate (3 - (lg_sl ([.ref h0])).length) Slot.unset).toArray = ls at hl ⊢
  have hl : lv_has ls 3 [(0, .ref h0)] := hl
  generalize hX : sX_isStrokeWanted g4 g5 g6 g7 g8 g9 g10 g11 g12 g13 g14 g15 g16 g17 r0 r1 r2 r3 = X
  refine bw_Q (fun Q hQ => ?_)
  have hinU : ∀ w ∈ wsX00, w ∈ wsX0_isStrokeWanted := fun w h => List.mem_cons_of_mem _ (List.mem_append_right _ h)
  unfold sX_isStrokeWanted at hX
  unfold bX_isStrokeWanted_0 at hX
  refine lv_aload_n hx hb dX0_isStrokeWanted_0 rfl (lv_at hl 0 rfl) ?_
  refine va_get (D := D) (ci := 0) (v := .ref a0) (C := RX0) (T := TX0) (N := 18) hx hb hts hinU hown hK hP 0 rfl rfl 0 (by decide) (hts (.fieldLink RX0 18 "BloodCircuitChannels" "parameters" "[I") (by decide +kernel)) (fun _ h9 => h9) rfl dX0_isStrokeWanted_1 ?_
  refine lv_iconst (v := 1) hx hb dX0_isStrokeWanted_4 (by decide +kernel) ?_
  refine bw_ld hx hb hK hP 1 0 rfl rfl 1 (by decide +kernel) (bw_in (by decide +kernel)) dX0_isStrokeWanted_5 ?_
  refine lv_i2l (v := (r0 1).toInt64) hx hb dX0_isStrokeWanted_6 rfl ?_
  refine lv_ldc2 (v := 1000) hx hb hown (hts (.constantLong RX0 150 1000) (by decide +kernel)) dX0_isStrokeWanted_7 ?_
  refine lv_lmul hx hb dX0_isStrokeWanted_10 ?_
  refine lv_aload_n hx hb dX0_isStrokeWanted_11 rfl (lv_at hl 0 rfl) ?_
  refine va_get (D := D) (ci := 0) (v := .int g9) (C := RX0) (T := TX0) (N := 18) hx hb hts hinU hown hK hP 0 rfl rfl 9 (by decide) (hts (.fieldLink RX0 77 "BloodCircuitChannels" "effective" "I") (by decide +kernel)) (fun _ h9 => h9) rfl dX0_isStrokeWanted_12 ?_
  refine lv_i2l (v := g9.toInt64) hx hb dX0_isStrokeWanted_15 rfl ?_
  refine lv_lmul hx hb dX0_isStrokeWanted_16 ?_
  refine lv_lstore_n (lv' := [(1, .long ((((r0 1).toInt64) * 1000) * g9.toInt64)), (0, .ref h0)]) hx hb dX0_isStrokeWanted_17 rfl hl (by decide) rfl (fun ls hl => ?_)
  refine lv_lload_n hx hb dX0_isStrokeWanted_18 rfl (lv_at hl 0 rfl) ?_
  refine lv_aload_n hx hb dX0_isStrokeWanted_19 rfl (lv_at hl 1 rfl) ?_
  refine va_get (D := D) (ci := 0) (v := .int g10) (C := RX0) (T := TX0) (N := 18) hx hb hts hinU hown hK hP 0 rfl rfl 10 (by decide) (hts (.fieldLink RX0 80 "BloodCircuitChannels" "accounted" "I") (by decide +kernel)) (fun _ h9 => h9) rfl dX0_isStrokeWanted_20 ?_
  refine lv_sipush (v := 500) hx hb dX0_isStrokeWanted_23 (by decide +kernel) ?_
  refine lv_iadd hx hb dX0_isStrokeWanted_26 ?_
  refine lv_i2l (v := (g10 + 500).toInt64) hx hb dX0_isStrokeWanted_27 rfl ?_
  refine lv_aload_n hx hb dX0_isStrokeWanted_28 rfl (lv_at hl 1 rfl) ?_
  refine bw_Vi (wr := []) (As := []) (rest := [.long ((g10 + 500).toInt64), .long ((((r0 1).toInt64) * 1000) * g9.toInt64)]) ⟨hx, hb, hml, hown, hts⟩ (ctX_ticksOfTreatment l D cI h0 a0 a1 a2 a3 _ g4 g5 g6 g7 g8 g9 g10 g11 g12 g13 g14 g15 g16 g17 r0 r1 r2 r3) (cwV 0 hts gX0_isStrokeWanted_X0_ticksOfTreatment rfl rfl rfl (by decide +kernel) ⟨Nat.le_of_ble_eq_true rfl, Nat.le_of_ble_eq_true rfl⟩) hK hP hD hS hA (tbX_bl) (tbX_to hT hS (bw_free (wr := []) hD hS hA)) 0 rfl rfl rfl hl.1 rfl (Nat.le_of_ble_eq_true rfl) dX0_isStrokeWanted_29 ⟨Nat.le_of_ble_eq_true rfl, Nat.le_of_ble_eq_true rfl⟩ (fun q1 u H locs hu hP hD hS => ?_)
  obtain ⟨hr1, rfl⟩ := hu
  subst hr1
  have hP : va_P D vwC2 (wdX cI h0 a0 a1 a2 a3 g4 g5 g6 g7 g8 g9 g10 g11 g12 g13 g14 g15 g16 g17 r0 r1 r2 r3) H := hP
  have hD : va_D A (wdX cI h0 a0 a1 a2 a3 g4 g5 g6 g7 g8 g9 g10 g11 g12 g13 g14 g15 g16 g17 r0 r1 r2 r3) := hD
  refine lv_i2l (v := (sX_ticksOfTreatment g4 g5 g6 g7 g8 g9 g10 g11 g12 g13 g14 g15 g16 g17 r0 r1 r2 r3).toInt64) hx hb dX0_isStrokeWanted_32 rfl ?_
  refine lv_lmul hx hb dX0_isStrokeWanted_33 ?_
  refine W.lcmp hx hb dX0_isStrokeWanted_34 ?_
  refine lv_if_lt (tgt := 42) hx hb dX0_isStrokeWanted_35 (by decide) (fun hc35 => ?_) (fun hc35 => ?_)
  · rw [if_pos hc35] at hX
    unfold bX_isStrokeWanted_42 at hX
    refine lv_iconst (v := 0) hx hb dX0_isStrokeWanted_42 (by decide +kernel) ?_
    subst hQ
    exact W.zret (ty := .boolean) (v := 0) hx hb hr (by decide +kernel) (fun t ht hW => ⟨⟨0, (g4, g5, g6, g7, g8, g9, g10, g11, g12, g13, g14, g15, g16, g17, r0, r1, r2, r3), rfl, ⟨hX, rfl⟩, by rw [ht]; exact hP, va_K.moved hW.alike hK, hD⟩, hS.F ht⟩) hS.2.2 dX0_isStrokeWanted_43
  · rw [if_neg hc35] at hX
    unfold bX_isStrokeWanted_38 at hX
    refine lv_iconst (v := 1) hx hb dX0_isStrokeWanted_38 (by decide +kernel) ?_
    refine lv_goto (tgt := 43) hx hb dX0_isStrokeWanted_39 (by decide) ?_
    subst hQ
    exact W.zret (ty := .boolean) (v := 1) hx hb hr (by decide +kernel) (fun t ht hW => ⟨⟨1, (g4, g5, g6, g7, g8, g9, g10, g11, g12, g13, g14, g15, g16, g17, r0, r1, r2, r3), rfl, ⟨hX, rfl⟩, by rw [ht]; exact hP, va_K.moved hW.alike hK, hD⟩, hS.F ht⟩) hS.2.2 dX0_isStrokeWanted_43
abbrev rmX_commandsOfControl : Room := { frames := 2, cells := 0, slots := 0, locals := 42 }
set_option maxHeartbeats 4000000 in
set_option maxRecDepth 100000 in
theorem ctX_commandsOfControl (l : Launch) (D : va_G) (cI : ClassId) (h0 a0 a1 a2 a3 sz : Nat) (g4 g5 g6 g7 g8 g9 g10 g11 g12 g13 g14 g15 g16 g17 : Int32) (r0 r1 r2 r3 : Nat → Int32)   : Met l yX0_commandsOfControl wsX0_commandsOfControl rmX_commandsOfControl (va_Pc [.ref h0] (bw_pr D vwC2 [(cI, .int)] (wdX cI h0 a0 a1 a2 a3 g4 g5 g6 g7 g8 g9 g10 g11 g12 g13 g14 g15 g16 g17 r0 r1 r2 r3) sz (tbX (va_A (wdX cI h0 a0 a1 a2 a3 g4 g5 g6 g7 g8 g9 g10 g11 g12 g13 g14 g15 g16 g17 r0 r1 r2 r3) sz)))) (va_Qi (fun r u => (r, u) = sX_commandsOfControl g4 g5 g6 g7 g8 g9 g10 g11 g12 g13 g14 g15 g16 g17 r0 r1 r2 r3) (bw_at D vwC2 [(cI, .int)] (wfX cI h0 a0 a1 a2 a3) (va_A (wdX cI h0 a0 a1 a2 a3 g4 g5 g6 g7 g8 g9 g10 g11 g12 g13 g14 g15 g16 g17 r0 r1 r2 r3) sz)) (va_A (wdX cI h0 a0 a1 a2 a3 g4 g5 g6 g7 g8 g9 g10 g11 g12 g13 g14 g15 g16 g17 r0 r1 r2 r3) sz)) 0 0 (va_A (wdX cI h0 a0 a1 a2 a3 g4 g5 g6 g7 g8 g9 g10 g11 g12 g13 g14 g15 g16 g17 r0 r1 r2 r3) sz) := by
  refine Met.ofW (cc := cX0_commandsOfControl) (maxL := 6) (ret := (some .int)) (by decide) rfl ?_
  intro p e s m args below meth c s₁ B hml hv
  obtain ⟨rfl, hsz, hP, hK, hD0, hT⟩ := hv
  have hx := B.exec
  have hb := B.bytes
  have hr := B.returns
  have hts := atoms_spec (ws := wsX0_commandsOfControl) B.pre
  have hown : s.vm.findClass RX0 = some m.cls := findClass_of_methodNamed B.named
  have hlocks := B.notSynchronized
  subst hsz
  have hD := hD0.self (sz := s.heap.size)
  generalize hAe : va_A (wdX cI h0 a0 a1 a2 a3 g4 g5 g6 g7 g8 g9 g10 g11 g12 g13 g14 g15 g16 g17 r0 r1 r2 r3) s.heap.size = A at hD hT ⊢
  have hA : ∀ q : Nat, s.heap.size ≤ q → A q := fun q h => by rw [← hAe]; exact Or.inr h
  have hS : va_S A s.heap s.heap [] := va_S.rf
  have hl := lv_entry ([.ref h0]) (n := 6) (Nat.le_of_ble_eq_true rfl)
  rw [lg_entry_eq]
  generalize (lg_sl ([.ref h0]) ++ List.replicate (6 - (lg_sl ([.ref h0])).length) Slot.unset).toArray = ls at hl ⊢
  have hl : lv_has ls 6 [(0, .ref h0)] := hl
  generalize hX : sX_commandsOfControl g4 g5 g6 g7 g8 g9 g10 g11 g12 g13 g14 g15 g16 g17 r0 r1 r2 r3 = X
  refine bw_Q (fun Q hQ => ?_)
  have hinU : ∀ w ∈ wsX00, w ∈ wsX0_commandsOfControl := fun w h => List.mem_cons_of_mem _ (List.mem_append_right _ h)
  have J180 : ∀ (g4 g5 g6 g7 g8 g9 g10 g11 g12 g13 g14 g15 g16 g17 : Int32) (r0 r1 r2 r3 : Nat → Int32) (y0 : Int32) (y1 : Int32) (H : Heap) (locs : List Loc) (ls : Array Slot), lv_has ls 6 [(0, .ref h0)] → va_P D vwC2 (wdX cI h0 a0 a1 a2 a3 g4 g5 g6 g7 g8 g9 g10 g11 g12 g13 g14 g15 g16 g17 r0 r1 r2 r3) H → va_D A (wdX cI h0 a0 a1 a2 a3 g4 g5 g6 g7 g8 g9 g10 g11 g12 g13 g14 g15 g16 g17 r0 r1 r2 r3) → va_S A s.heap H locs → bX_commandsOfControl_180 g4 g5 g6 g7 g8 g9 g10 g11 g12 g13 g14 g15 g16 g17 r0 r1 r2 r3 y0 y1 = X → W p l e (headSpec wsX0_commandsOfControl rmX_commandsOfControl).room s m ([.ref h0] : List Value).toArray below meth c H locs 0 0 Q (F0 m 180 ls [.int y0, .int y1]) := by
    intro g4 g5 g6 g7 g8 g9 g10 g11 g12 g13 g14 g15 g16 g17 r0 r1 r2 r3 y0 y1 H locs ls hl hP hD hS hX
    unfold bX_commandsOfControl_180 at hX
    refine lv_ior hx hb dX0_commandsOfControl_180 ?_
    subst hQ
    exact W.iret (v := y1 ||| y0) hx hb hr (fun t ht hW => ⟨⟨y1 ||| y0, (g4, g5, g6, g7, g8, g9, g10, g11, g12, g13, g14, g15, g16, g17, r0, r1, r2, r3), rfl, hX, by rw [ht]; exact hP, va_K.moved hW.alike hK, hD⟩, hS.F ht⟩) hS.2.2 dX0_commandsOfControl_181
  have J168 : ∀ (g4 g5 g6 g7 g8 g9 g10 g11 g12 g13 g14 g15 g16 g17 : Int32) (r0 r1 r2 r3 : Nat → Int32) (x5 : Int32) (y0 : Int32) (y1 : Int32) (H : Heap) (locs : List Loc) (ls : Array Slot), lv_has ls 6 [(0, .ref h0), (5, .int x5)] → va_P D vwC2 (wdX cI h0 a0 a1 a2 a3 g4 g5 g6 g7 g8 g9 g10 g11 g12 g13 g14 g15 g16 g17 r0 r1 r2 r3) H → va_D A (wdX cI h0 a0 a1 a2 a3 g4 g5 g6 g7 g8 g9 g10 g11 g12 g13 g14 g15 g16 g17 r0 r1 r2 r3) → va_S A s.heap H locs → bX_commandsOfControl_168 g4 g5 g6 g7 g8 g9 g10 g11 g12 g13 g14 g15 g16 g17 r0 r1 r2 r3 x5 y0 y1 = X → W p l e (headSpec wsX0_commandsOfControl rmX_commandsOfControl).room s m ([.ref h0] : List Value).toArray below meth c H locs 0 0 Q (F0 m 168 ls [.int y0, .int y1]) := by
    intro g4 g5 g6 g7 g8 g9 g10 g11 g12 g13 g14 g15 g16 g17 r0 r1 r2 r3 x5 y0 y1 H locs ls hl hP hD hS hX
    unfold bX_commandsOfControl_168 at hX
    refine lv_ior hx hb dX0_commandsOfControl_168 ?_
    refine lv_iload hx hb dX0_commandsOfControl_169 (lv_at hl 1 rfl) ?_
    refine lv_if_eq (tgt := 179) hx hb dX0_commandsOfControl_171 (by decide) (fun hc171 => ?_) (fun hc171 => ?_)
    · rw [if_pos hc171] at hX
      unfold bX_commandsOfControl_179 at hX
      refine lv_iconst (v := 0) hx hb dX0_commandsOfControl_179 (by decide +kernel) ?_
      exact J180 g4 g5 g6 g7 g8 g9 g10 g11 g12 g13 g14 g15 g16 g17 r0 r1 r2 r3 0 (y1 ||| y0) _ _ ls (lv_sub hl [0] rfl) hP hD hS hX
    · rw [if_neg hc171] at hX
      unfold bX_commandsOfControl_174 at hX
      refine lv_bipush (v := 8) hx hb dX0_commandsOfControl_174 (by decide +kernel) ?_
      refine lv_goto (tgt := 180) hx hb dX0_commandsOfControl_176 (by decide) ?_
      exact J180 g4 g5 g6 g7 g8 g9 g10 g11 g12 g13 g14 g15 g16 g17 r0 r1 r2 r3 8 (y1 ||| y0) _ _ ls (lv_sub hl [0] rfl) hP hD hS hX
  have J157 : ∀ (g4 g5 g6 g7 g8 g9 g10 g11 g12 g13 g14 g15 g16 g17 : Int32) (r0 r1 r2 r3 : Nat → Int32) (x4 : Int32) (x5 : Int32) (y0 : Int32) (y1 : Int32) (H : Heap) (locs : List Loc) (ls : Array Slot), lv_has ls 6 [(0, .ref h0), (4, .int x4), (5, .int x5)] → va_P D vwC2 (wdX cI h0 a0 a1 a2 a3 g4 g5 g6 g7 g8 g9 g10 g11 g12 g13 g14 g15 g16 g17 r0 r1 r2 r3) H → va_D A (wdX cI h0 a0 a1 a2 a3 g4 g5 g6 g7 g8 g9 g10 g11 g12 g13 g14 g15 g16 g17 r0 r1 r2 r3) → va_S A s.heap H locs → bX_commandsOfControl_157 g4 g5 g6 g7 g8 g9 g10 g11 g12 g13 g14 g15 g16 g17 r0 r1 r2 r3 x4 x5 y0 y1 = X → W p l e (headSpec wsX0_commandsOfControl rmX_commandsOfControl).room s m ([.ref h0] : List Value).toArray below meth c H locs 0 0 Q (F0 m 157 ls [.int y0, .int y1]) := by
    intro g4 g5 g6 g7 g8 g9 g10 g11 g12 g13 g14 g15 g16 g17 r0 r1 r2 r3 x4 x5 y0 y1 H locs ls hl hP hD hS hX
    unfold bX_commandsOfControl_157 at hX
    refine lv_ior hx hb dX0_commandsOfControl_157 ?_
    refine lv_iload hx hb dX0_commandsOfControl_158 (lv_at hl 1 rfl) ?_
    refine lv_if_eq (tgt := 167) hx hb dX0_commandsOfControl_160 (by decide) (fun hc160 => ?_) (fun hc160 => ?_)
    · rw [if_pos hc160] at hX
      unfold bX_commandsOfControl_167 at hX
      refine lv_iconst (v := 0) hx hb dX0_commandsOfControl_167 (by decide +kernel) ?_
      exact J168 g4 g5 g6 g7 g8 g9 g10 g11 g12 g13 g14 g15 g16 g17 r0 r1 r2 r3 x5 0 (y1 ||| y0) _ _ ls (lv_sub hl [0, 2] rfl) hP hD hS hX
    · rw [if_neg hc160] at hX
      unfold bX_commandsOfControl_163 at hX
      refine lv_iconst (v := 4) hx hb dX0_commandsOfControl_163 (by decide +kernel) ?_
      refine lv_goto (tgt := 168) hx hb dX0_commandsOfControl_164 (by decide) ?_
      exact J168 g4 g5 g6 g7 g8 g9 g10 g11 g12 g13 g14 g15 g16 g17 r0 r1 r2 r3 x5 4 (y1 ||| y0) _ _ ls (lv_sub hl [0, 2] rfl) hP hD hS hX
  have J148 : ∀ (g4 g5 g6 g7 g8 g9 g10 g11 g12 g13 g14 g15 g16 g17 : Int32) (r0 r1 r2 r3 : Nat → Int32) (x3 : Int32) (x4 : Int32) (x5 : Int32) (y0 : Int32) (H : Heap) (locs : List Loc) (ls : Array Slot), lv_has ls 6 [(0, .ref h0), (3, .int x3), (4, .int x4), (5, .int x5)] → va_P D vwC2 (wdX cI h0 a0 a1 a2 a3 g4 g5 g6 g7 g8 g9 g10 g11 g12 g13 g14 g15 g16 g17 r0 r1 r2 r3) H → va_D A (wdX cI h0 a0 a1 a2 a3 g4 g5 g6 g7 g8 g9 g10 g11 g12 g13 g14 g15 g16 g17 r0 r1 r2 r3) → va_S A s.heap H locs → bX_commandsOfControl_148 g4 g5 g6 g7 g8 g9 g10 g11 g12 g13 g14 g15 g16 g17 r0 r1 r2 r3 x3 x4 x5 y0 = X → W p l e (headSpec wsX0_commandsOfControl rmX_commandsOfControl).room s m ([.ref h0] : List Value).toArray below meth c H locs 0 0 Q (F0 m 148 ls [.int y0]) := by
    intro g4 g5 g6 g7 g8 g9 g10 g11 g12 g13 g14 g15 g16 g17 r0 r1 r2 r3 x3 x4 x5 y0 H locs ls hl hP hD hS hX
    unfold bX_commandsOfControl_148 at hX
    refine lv_iload_n hx hb dX0_commandsOfControl_148 rfl (lv_at hl 1 rfl) ?_
    refine lv_if_eq (tgt := 156) hx hb dX0_commandsOfControl_149 (by decide) (fun hc149 => ?_) (fun hc149 => ?_)
    · rw [if_pos hc149] at hX
      unfold bX_commandsOfControl_156 at hX
      refine lv_iconst (v := 0) hx hb dX0_commandsOfControl_156 (by decide +kernel) ?_
      exact J157 g4 g5 g6 g7 g8 g9 g10 g11 g12 g13 g14 g15 g16 g17 r0 r1 r2 r3 x4 x5 0 y0 _ _ ls (lv_sub hl [0, 2, 3] rfl) hP hD hS hX
    · rw [if_neg hc149] at hX
      unfold bX_commandsOfControl_152 at hX
      refine lv_iconst (v := 2) hx hb dX0_commandsOfControl_152 (by decide +kernel) ?_
      refine lv_goto (tgt := 157) hx hb dX0_commandsOfControl_153 (by decide) ?_
      exact J157 g4 g5 g6 g7 g8 g9 g10 g11 g12 g13 g14 g15 g16 g17 r0 r1 r2 r3 x4 x5 2 y0 _ _ ls (lv_sub hl [0, 2, 3] rfl) hP hD hS hX
  have J139 : ∀ (g4 g5 g6 g7 g8 g9 g10 g11 g12 g13 g14 g15 g16 g17 : Int32) (r0 r1 r2 r3 : Nat → Int32) (x2 : Int32) (x3 : Int32) (x4 : Int32) (x5 : Int32) (H : Heap) (locs : List Loc) (ls : Array Slot), lv_has ls 6 [(0, .ref h0), (2, .int x2), (3, .int x3), (4, .int x4), (5, .int x5)] → va_P D vwC2 (wdX cI h0 a0 a1 a2 a3 g4 g5 g6 g7 g8 g9 g10 g11 g12 g13 g14 g15 g16 g17 r0 r1 r2 r3) H → va_D A (wdX cI h0 a0 a1 a2 a3 g4 g5 g6 g7 g8 g9 g10 g11 g12 g13 g14 g15 g16 g17 r0 r1 r2 r3) → va_S A s.heap H locs → bX_commandsOfControl_139 g4 g5 g6 g7 g8 g9 g10 g11 g12 g13 g14 g15 g16 g17 r0 r1 r2 r3 x2 x3 x4 x5 = X → W p l e (headSpec wsX0_commandsOfControl rmX_commandsOfControl).room s m ([.ref h0] : List Value).toArray below meth c H locs 0 0 Q (F0 m 139 ls []) := by
    intro g4 g5 g6 g7 g8 g9 g10 g11 g12 g13 g14 g15 g16 g17 r0 r1 r2 r3 x2 x3 x4 x5 H locs ls hl hP hD hS hX
    unfold bX_commandsOfControl_139 at hX
    refine lv_iload_n hx hb dX0_commandsOfControl_139 rfl (lv_at hl 1 rfl) ?_
    refine lv_if_eq (tgt := 147) hx hb dX0_commandsOfControl_140 (by decide) (fun hc140 => ?_) (fun hc140 => ?_)
    · rw [if_pos hc140] at hX
      unfold bX_commandsOfControl_147 at hX
      refine lv_iconst (v := 0) hx hb dX0_commandsOfControl_147 (by decide +kernel) ?_
      exact J148 g4 g5 g6 g7 g8 g9 g10 g11 g12 g13 g14 g15 g16 g17 r0 r1 r2 r3 x3 x4 x5 0 _ _ ls (lv_sub hl [0, 2, 3, 4] rfl) hP hD hS hX
    · rw [if_neg hc140] at hX
      unfold bX_commandsOfControl_143 at hX
      refine lv_iconst (v := 1) hx hb dX0_commandsOfControl_143 (by decide +kernel) ?_
      refine lv_goto (tgt := 148) hx hb dX0_commandsOfControl_144 (by decide) ?_
      exact J148 g4 g5 g6 g7 g8 g9 g10 g11 g12 g13 g14 g15 g16 g17 r0 r1 r2 r3 x3 x4 x5 1 _ _ ls (lv_sub hl [0, 2, 3, 4] rfl) hP hD hS hX
  have J122 : ∀ (g4 g5 g6 g7 g8 g9 g10 g11 g12 g13 g14 g15 g16 g17 : Int32) (r0 r1 r2 r3 : Nat → Int32) (x2 : Int32) (x3 : Int32) (x4 : Int32) (x5 : Int32) (H : Heap) (locs : List Loc) (ls : Array Slot), lv_has ls 6 [(0, .ref h0), (2, .int x2), (3, .int x3), (4, .int x4), (5, .int x5)] → va_P D vwC2 (wdX cI h0 a0 a1 a2 a3 g4 g5 g6 g7 g8 g9 g10 g11 g12 g13 g14 g15 g16 g17 r0 r1 r2 r3) H → va_D A (wdX cI h0 a0 a1 a2 a3 g4 g5 g6 g7 g8 g9 g10 g11 g12 g13 g14 g15 g16 g17 r0 r1 r2 r3) → va_S A s.heap H locs → bX_commandsOfControl_122 g4 g5 g6 g7 g8 g9 g10 g11 g12 g13 g14 g15 g16 g17 r0 r1 r2 r3 x2 x3 x4 x5 = X → W p l e (headSpec wsX0_commandsOfControl rmX_commandsOfControl).room s m ([.ref h0] : List Value).toArray below meth c H locs 0 0 Q (F0 m 122 ls []) := by
    intro g4 g5 g6 g7 g8 g9 g10 g11 g12 g13 g14 g15 g16 g17 r0 r1 r2 r3 x2 x3 x4 x5 H locs ls hl hP hD hS hX
    unfold bX_commandsOfControl_122 at hX
    refine lv_iload hx hb dX0_commandsOfControl_122 (lv_at hl 4 rfl) ?_
    refine lv_if_eq (tgt := 139) hx hb dX0_commandsOfControl_124 (by decide) (fun hc124 => ?_) (fun hc124 => ?_)
    · rw [if_pos hc124] at hX
      exact J139 g4 g5 g6 g7 g8 g9 g10 g11 g12 g13 g14 g15 g16 g17 r0 r1 r2 r3 x2 x3 x4 x5 _ _ ls (lv_sub hl [0, 1, 2, 3, 4] rfl) hP hD hS hX
    · rw [if_neg hc124] at hX
      unfold bX_commandsOfControl_127 at hX
      refine lv_aload_n hx hb dX0_commandsOfControl_127 rfl (lv_at hl 0 rfl) ?_
      refine lv_dup hx hb dX0_commandsOfControl_128 rfl ?_
      refine va_get (D := D) (ci := 0) (v := .int g10) (C := RX0) (T := TX0) (N := 18) hx hb hts hinU hown hK hP 0 rfl rfl 10 (by decide) (hts (.fieldLink RX0 80 "BloodCircuitChannels" "accounted" "I") (by decide +kernel)) (fun _ h9 => h9) rfl dX0_commandsOfControl_129 ?_
      refine lv_sipush (v := 500) hx hb dX0_commandsOfControl_132 (by decide +kernel) ?_
      refine lv_iadd hx hb dX0_commandsOfControl_135 ?_
      refine va_put (D := D) (ci := 0) (v := .int (g10 + 500)) (ty := .int) (C := RX0) (T := TX0) (N := 18) hx hb hts hinU tyX0 tyX0_ok nmX0 hown hK hP hD hS 0 rfl rfl 10 (by decide) (hts (.fieldLink RX0 80 "BloodCircuitChannels" "accounted" "I") (by decide +kernel)) (fun _ h9 => h9) rfl (by decide +kernel) rfl rfl (Nat.le_of_ble_eq_true rfl) dX0_commandsOfControl_136 (fun H locs hP hD hS => ?_)
      have hP : va_P D vwC2 (wdX cI h0 a0 a1 a2 a3 g4 g5 g6 g7 g8 g9 (g10 + 500) g11 g12 g13 g14 g15 g16 g17 r0 r1 r2 r3) H := hP
      have hD : va_D A (wdX cI h0 a0 a1 a2 a3 g4 g5 g6 g7 g8 g9 (g10 + 500) g11 g12 g13 g14 g15 g16 g17 r0 r1 r2 r3) := hD
      exact J139 g4 g5 g6 g7 g8 g9 (g10 + 500) g11 g12 g13 g14 g15 g16 g17 r0 r1 r2 r3 x2 x3 x4 x5 _ _ ls (lv_sub hl [0, 1, 2, 3, 4] rfl) hP hD hS hX
  have J92 : ∀ (g4 g5 g6 g7 g8 g9 g10 g11 g12 g13 g14 g15 g16 g17 : Int32) (r0 r1 r2 r3 : Nat → Int32) (x2 : Int32) (x3 : Int32) (y0 : Int32) (H : Heap) (locs : List Loc) (ls : Array Slot), lv_has ls 6 [(0, .ref h0), (2, .int x2), (3, .int x3)] → va_P D vwC2 (wdX cI h0 a0 a1 a2 a3 g4 g5 g6 g7 g8 g9 g10 g11 g12 g13 g14 g15 g16 g17 r0 r1 r2 r3) H → va_D A (wdX cI h0 a0 a1 a2 a3 g4 g5 g6 g7 g8 g9 g10 g11 g12 g13 g14 g15 g16 g17 r0 r1 r2 r3) → va_S A s.heap H locs → bX_commandsOfControl_92 g4 g5 g6 g7 g8 g9 g10 g11 g12 g13 g14 g15 g16 g17 r0 r1 r2 r3 x2 x3 y0 = X → W p l e (headSpec wsX0_commandsOfControl rmX_commandsOfControl).room s m ([.ref h0] : List Value).toArray below meth c H locs 0 0 Q (F0 m 92 ls [.int y0]) := by
    intro g4 g5 g6 g7 g8 g9 g10 g11 g12 g13 g14 g15 g16 g17 r0 r1 r2 r3 x2 x3 y0 H locs ls hl hP hD hS hX
    unfold bX_commandsOfControl_92 at hX
    refine lv_istore (lv' := [(4, .int y0), (0, .ref h0), (2, .int x2), (3, .int x3)]) hx hb dX0_commandsOfControl_92 hl (by decide) rfl (fun ls hl => ?_)
    refine lv_iconst (v := 0) hx hb dX0_commandsOfControl_94 (by decide +kernel) ?_
    refine lv_istore (lv' := [(5, .int 0), (4, .int y0), (0, .ref h0), (2, .int x2), (3, .int x3)]) hx hb dX0_commandsOfControl_95 hl (by decide) rfl (fun ls hl => ?_)
    refine lv_iload_n hx hb dX0_commandsOfControl_97 rfl (lv_at hl 3 rfl) ?_
    refine lv_if_eq (tgt := 122) hx hb dX0_commandsOfControl_98 (by decide) (fun hc98 => ?_) (fun hc98 => ?_)
    · rw [if_pos hc98] at hX
      exact J122 g4 g5 g6 g7 g8 g9 g10 g11 g12 g13 g14 g15 g16 g17 r0 r1 r2 r3 x2 x3 y0 0 _ _ ls (lv_sub hl [2, 3, 4, 1, 0] rfl) hP hD hS hX
    · rw [if_neg hc98] at hX
      unfold bX_commandsOfControl_101 at hX
      refine lv_iload hx hb dX0_commandsOfControl_101 (lv_at hl 1 rfl) ?_
      refine lv_if_ne (tgt := 122) hx hb dX0_commandsOfControl_103 (by decide) (fun hc103 => ?_) (fun hc103 => ?_)
      · rw [if_neg hc103] at hX
        exact J122 g4 g5 g6 g7 g8 g9 g10 g11 g12 g13 g14 g15 g16 g17 r0 r1 r2 r3 x2 x3 y0 0 _ _ ls (lv_sub hl [2, 3, 4, 1, 0] rfl) hP hD hS hX
      · rw [if_pos hc103] at hX
        unfold bX_commandsOfControl_106 at hX
        refine lv_aload_n hx hb dX0_commandsOfControl_106 rfl (lv_at hl 2 rfl) ?_
        refine lv_dup hx hb dX0_commandsOfControl_107 rfl ?_
        refine va_get (D := D) (ci := 0) (v := .int g9) (C := RX0) (T := TX0) (N := 18) hx hb hts hinU hown hK hP 0 rfl rfl 9 (by decide) (hts (.fieldLink RX0 77 "BloodCircuitChannels" "effective" "I") (by decide +kernel)) (fun _ h9 => h9) rfl dX0_commandsOfControl_108 ?_
        refine lv_iconst (v := 1) hx hb dX0_commandsOfControl_111 (by decide +kernel) ?_
        refine lv_iadd hx hb dX0_commandsOfControl_112 ?_
        refine va_put (D := D) (ci := 0) (v := .int (g9 + 1)) (ty := .int) (C := RX0) (T := TX0) (N := 18) hx hb hts hinU tyX0 tyX0_ok nmX0 hown hK hP hD hS 0 rfl rfl 9 (by decide) (hts (.fieldLink RX0 77 "BloodCircuitChannels" "effective" "I") (by decide +kernel)) (fun _ h9 => h9) rfl (by decide +kernel) rfl rfl (Nat.le_of_ble_eq_true rfl) dX0_commandsOfControl_113 (fun H locs hP hD hS => ?_)
        have hP : va_P D vwC2 (wdX cI h0 a0 a1 a2 a3 g4 g5 g6 g7 g8 (g9 + 1) g10 g11 g12 g13 g14 g15 g16 g17 r0 r1 r2 r3) H := hP
        have hD : va_D A (wdX cI h0 a0 a1 a2 a3 g4 g5 g6 g7 g8 (g9 + 1) g10 g11 g12 g13 g14 g15 g16 g17 r0 r1 r2 r3) := hD
        refine lv_aload_n hx hb dX0_commandsOfControl_116 rfl (lv_at hl 2 rfl) ?_
        refine bw_Vi (wr := []) (As := []) (rest := []) ⟨hx, hb, hml, hown, hts⟩ (ctX_isStrokeWanted l D cI h0 a0 a1 a2 a3 _ g4 g5 g6 g7 g8 (g9 + 1) g10 g11 g12 g13 g14 g15 g16 g17 r0 r1 r2 r3) (cwV 0 hts gX0_commandsOfControl_X0_isStrokeWanted rfl rfl rfl (by decide +kernel) ⟨Nat.le_of_ble_eq_true rfl, Nat.le_of_ble_eq_true rfl⟩) hK hP hD hS hA (tbX_bl) (tbX_to hT hS (bw_free (wr := []) hD hS hA)) 0 rfl rfl rfl hl.1 rfl (Nat.le_of_ble_eq_true rfl) dX0_commandsOfControl_117 ⟨Nat.le_of_ble_eq_true rfl, Nat.le_of_ble_eq_true rfl⟩ (fun q1 u H locs hu hP hD hS => ?_)
        obtain ⟨hr1, rfl⟩ := hu
        subst hr1
        have hP : va_P D vwC2 (wdX cI h0 a0 a1 a2 a3 g4 g5 g6 g7 g8 (g9 + 1) g10 g11 g12 g13 g14 g15 g16 g17 r0 r1 r2 r3) H := hP
        have hD : va_D A (wdX cI h0 a0 a1 a2 a3 g4 g5 g6 g7 g8 (g9 + 1) g10 g11 g12 g13 g14 g15 g16 g17 r0 r1 r2 r3) := hD
        refine lv_istore (lv' := [(5, .int (sX_isStrokeWanted g4 g5 g6 g7 g8 (g9 + 1) g10 g11 g12 g13 g14 g15 g16 g17 r0 r1 r2 r3)), (4, .int y0), (0, .ref h0), (2, .int x2), (3, .int x3)]) hx hb dX0_commandsOfControl_120 hl (by decide) rfl (fun ls hl => ?_)
        exact J122 g4 g5 g6 g7 g8 (g9 + 1) g10 g11 g12 g13 g14 g15 g16 g17 r0 r1 r2 r3 x2 x3 y0 (sX_isStrokeWanted g4 g5 g6 g7 g8 (g9 + 1) g10 g11 g12 g13 g14 g15 g16 g17 r0 r1 r2 r3) _ _ ls (lv_sub hl [2, 3, 4, 1, 0] rfl) hP hD hS hX
  have J87 : ∀ (g4 g5 g6 g7 g8 g9 g10 g11 g12 g13 g14 g15 g16 g17 : Int32) (r0 r1 r2 r3 : Nat → Int32) (x2 : Int32) (x3 : Int32) (H : Heap) (locs : List Loc) (ls : Array Slot), lv_has ls 6 [(0, .ref h0), (2, .int x2), (3, .int x3)] → va_P D vwC2 (wdX cI h0 a0 a1 a2 a3 g4 g5 g6 g7 g8 g9 g10 g11 g12 g13 g14 g15 g16 g17 r0 r1 r2 r3) H → va_D A (wdX cI h0 a0 a1 a2 a3 g4 g5 g6 g7 g8 g9 g10 g11 g12 g13 g14 g15 g16 g17 r0 r1 r2 r3) → va_S A s.heap H locs → bX_commandsOfControl_87 g4 g5 g6 g7 g8 g9 g10 g11 g12 g13 g14 g15 g16 g17 r0 r1 r2 r3 x2 x3 = X → W p l e (headSpec wsX0_commandsOfControl rmX_commandsOfControl).room s m ([.ref h0] : List Value).toArray below meth c H locs 0 0 Q (F0 m 87 ls []) := by
    intro g4 g5 g6 g7 g8 g9 g10 g11 g12 g13 g14 g15 g16 g17 r0 r1 r2 r3 x2 x3 H locs ls hl hP hD hS hX
    unfold bX_commandsOfControl_87 at hX
    refine lv_iconst (v := 1) hx hb dX0_commandsOfControl_87 (by decide +kernel) ?_
    refine lv_goto (tgt := 92) hx hb dX0_commandsOfControl_88 (by decide) ?_
    exact J92 g4 g5 g6 g7 g8 g9 g10 g11 g12 g13 g14 g15 g16 g17 r0 r1 r2 r3 x2 x3 1 _ _ ls (lv_sub hl [0, 1, 2] rfl) hP hD hS hX
  have J61 : ∀ (g4 g5 g6 g7 g8 g9 g10 g11 g12 g13 g14 g15 g16 g17 : Int32) (r0 r1 r2 r3 : Nat → Int32) (x2 : Int32) (y0 : Int32) (H : Heap) (locs : List Loc) (ls : Array Slot), lv_has ls 6 [(0, .ref h0), (2, .int x2)] → va_P D vwC2 (wdX cI h0 a0 a1 a2 a3 g4 g5 g6 g7 g8 g9 g10 g11 g12 g13 g14 g15 g16 g17 r0 r1 r2 r3) H → va_D A (wdX cI h0 a0 a1 a2 a3 g4 g5 g6 g7 g8 g9 g10 g11 g12 g13 g14 g15 g16 g17 r0 r1 r2 r3) → va_S A s.heap H locs → bX_commandsOfControl_61 g4 g5 g6 g7 g8 g9 g10 g11 g12 g13 g14 g15 g16 g17 r0 r1 r2 r3 x2 y0 = X → W p l e (headSpec wsX0_commandsOfControl rmX_commandsOfControl).room s m ([.ref h0] : List Value).toArray below meth c H locs 0 0 Q (F0 m 61 ls [.int y0]) := by
    intro g4 g5 g6 g7 g8 g9 g10 g11 g12 g13 g14 g15 g16 g17 r0 r1 r2 r3 x2 y0 H locs ls hl hP hD hS hX
    unfold bX_commandsOfControl_61 at hX
    refine lv_istore_n (lv' := [(3, .int y0), (0, .ref h0), (2, .int x2)]) hx hb dX0_commandsOfControl_61 rfl hl (by decide) rfl (fun ls hl => ?_)
    refine lv_aload_n hx hb dX0_commandsOfControl_62 rfl (lv_at hl 1 rfl) ?_
    refine va_get (D := D) (ci := 0) (v := .int g4) (C := RX0) (T := TX0) (N := 18) hx hb hts hinU hown hK hP 0 rfl rfl 4 (by decide) (hts (.fieldLink RX0 33 "BloodCircuitChannels" "phase" "I") (by decide +kernel)) (fun _ h9 => h9) rfl dX0_commandsOfControl_63 ?_
    refine lv_iconst (v := 3) hx hb dX0_commandsOfControl_66 (by decide +kernel) ?_
    refine lv_icmp_ne (tgt := 87) hx hb dX0_commandsOfControl_67 (by decide) (fun hc67 => ?_) (fun hc67 => ?_)
    · rw [if_neg hc67] at hX
      exact J87 g4 g5 g6 g7 g8 g9 g10 g11 g12 g13 g14 g15 g16 g17 r0 r1 r2 r3 x2 y0 _ _ ls (lv_sub hl [1, 2, 0] rfl) hP hD hS hX
    · rw [if_pos hc67] at hX
      unfold bX_commandsOfControl_70 at hX
      refine lv_aload_n hx hb dX0_commandsOfControl_70 rfl (lv_at hl 1 rfl) ?_
      refine va_get (D := D) (ci := 0) (v := .int g15) (C := RX0) (T := TX0) (N := 18) hx hb hts hinU hown hK hP 0 rfl rfl 15 (by decide) (hts (.fieldLink RX0 136 "BloodCircuitChannels" "fluidOffTicks" "I") (by decide +kernel)) (fun _ h9 => h9) rfl dX0_commandsOfControl_71 ?_
      refine lv_if_gt (tgt := 87) hx hb dX0_commandsOfControl_74 (by decide) (fun hc74 => ?_) (fun hc74 => ?_)
      · rw [if_pos hc74] at hX
        exact J87 g4 g5 g6 g7 g8 g9 g10 g11 g12 g13 g14 g15 g16 g17 r0 r1 r2 r3 x2 y0 _ _ ls (lv_sub hl [1, 2, 0] rfl) hP hD hS hX
      · rw [if_neg hc74] at hX
        unfold bX_commandsOfControl_77 at hX
        refine lv_aload_n hx hb dX0_commandsOfControl_77 rfl (lv_at hl 1 rfl) ?_
        refine va_get (D := D) (ci := 0) (v := .int g5) (C := RX0) (T := TX0) (N := 18) hx hb hts hinU hown hK hP 0 rfl rfl 5 (by decide) (hts (.fieldLink RX0 65 "BloodCircuitChannels" "alarms" "I") (by decide +kernel)) (fun _ h9 => h9) rfl dX0_commandsOfControl_78 ?_
        refine lv_bipush (v := 8) hx hb dX0_commandsOfControl_81 (by decide +kernel) ?_
        refine lv_iand hx hb dX0_commandsOfControl_83 ?_
        refine lv_if_eq (tgt := 91) hx hb dX0_commandsOfControl_84 (by decide) (fun hc84 => ?_) (fun hc84 => ?_)
        · rw [if_pos hc84] at hX
          unfold bX_commandsOfControl_91 at hX
          refine lv_iconst (v := 0) hx hb dX0_commandsOfControl_91 (by decide +kernel) ?_
          exact J92 g4 g5 g6 g7 g8 g9 g10 g11 g12 g13 g14 g15 g16 g17 r0 r1 r2 r3 x2 y0 0 _ _ ls (lv_sub hl [1, 2, 0] rfl) hP hD hS hX
        · rw [if_neg hc84] at hX
          exact J87 g4 g5 g6 g7 g8 g9 g10 g11 g12 g13 g14 g15 g16 g17 r0 r1 r2 r3 x2 y0 _ _ ls (lv_sub hl [1, 2, 0] rfl) hP hD hS hX
  have J60 : ∀ (g4 g5 g6 g7 g8 g9 g10 g11 g12 g13 g14 g15 g16 g17 : Int32) (r0 r1 r2 r3 : Nat → Int32) (x2 : Int32) (H : Heap) (locs : List Loc) (ls : Array Slot), lv_has ls 6 [(0, .ref h0), (2, .int x2)] → va_P D vwC2 (wdX cI h0 a0 a1 a2 a3 g4 g5 g6 g7 g8 g9 g10 g11 g12 g13 g14 g15 g16 g17 r0 r1 r2 r3) H → va_D A (wdX cI h0 a0 a1 a2 a3 g4 g5 g6 g7 g8 g9 g10 g11 g12 g13 g14 g15 g16 g17 r0 r1 r2 r3) → va_S A s.heap H locs → bX_commandsOfControl_60 g4 g5 g6 g7 g8 g9 g10 g11 g12 g13 g14 g15 g16 g17 r0 r1 r2 r3 x2 = X → W p l e (headSpec wsX0_commandsOfControl rmX_commandsOfControl).room s m ([.ref h0] : List Value).toArray below meth c H locs 0 0 Q (F0 m 60 ls []) := by
    intro g4 g5 g6 g7 g8 g9 g10 g11 g12 g13 g14 g15 g16 g17 r0 r1 r2 r3 x2 H locs ls hl hP hD hS hX
    unfold bX_commandsOfControl_60 at hX
    refine lv_iconst (v := 0) hx hb dX0_commandsOfControl_60 (by decide +kernel) ?_
    exact J61 g4 g5 g6 g7 g8 g9 g10 g11 g12 g13 g14 g15 g16 g17 r0 r1 r2 r3 x2 0 _ _ ls (lv_sub hl [0, 1] rfl) hP hD hS hX
  have J41 : ∀ (g4 g5 g6 g7 g8 g9 g10 g11 g12 g13 g14 g15 g16 g17 : Int32) (r0 r1 r2 r3 : Nat → Int32) (x1 : Int32) (y0 : Int32) (H : Heap) (locs : List Loc) (ls : Array Slot), lv_has ls 6 [(0, .ref h0), (1, .int x1)] → va_P D vwC2 (wdX cI h0 a0 a1 a2 a3 g4 g5 g6 g7 g8 g9 g10 g11 g12 g13 g14 g15 g16 g17 r0 r1 r2 r3) H → va_D A (wdX cI h0 a0 a1 a2 a3 g4 g5 g6 g7 g8 g9 g10 g11 g12 g13 g14 g15 g16 g17 r0 r1 r2 r3) → va_S A s.heap H locs → bX_commandsOfControl_41 g4 g5 g6 g7 g8 g9 g10 g11 g12 g13 g14 g15 g16 g17 r0 r1 r2 r3 x1 y0 = X → W p l e (headSpec wsX0_commandsOfControl rmX_commandsOfControl).room s m ([.ref h0] : List Value).toArray below meth c H locs 0 0 Q (F0 m 41 ls [.int y0]) := by
    intro g4 g5 g6 g7 g8 g9 g10 g11 g12 g13 g14 g15 g16 g17 r0 r1 r2 r3 x1 y0 H locs ls hl hP hD hS hX
    unfold bX_commandsOfControl_41 at hX
    refine lv_istore_n (lv' := [(2, .int y0), (0, .ref h0), (1, .int x1)]) hx hb dX0_commandsOfControl_41 rfl hl (by decide) rfl (fun ls hl => ?_)
    refine lv_iload_n hx hb dX0_commandsOfControl_42 rfl (lv_at hl 2 rfl) ?_
    refine lv_if_eq (tgt := 60) hx hb dX0_commandsOfControl_43 (by decide) (fun hc43 => ?_) (fun hc43 => ?_)
    · rw [if_pos hc43] at hX
      exact J60 g4 g5 g6 g7 g8 g9 g10 g11 g12 g13 g14 g15 g16 g17 r0 r1 r2 r3 y0 _ _ ls (lv_sub hl [1, 0] rfl) hP hD hS hX
    · rw [if_neg hc43] at hX
      unfold bX_commandsOfControl_46 at hX
      refine lv_aload_n hx hb dX0_commandsOfControl_46 rfl (lv_at hl 1 rfl) ?_
      refine va_get (D := D) (ci := 0) (v := .int g5) (C := RX0) (T := TX0) (N := 18) hx hb hts hinU hown hK hP 0 rfl rfl 5 (by decide) (hts (.fieldLink RX0 65 "BloodCircuitChannels" "alarms" "I") (by decide +kernel)) (fun _ h9 => h9) rfl dX0_commandsOfControl_47 ?_
      refine lv_bipush (v := 38) hx hb dX0_commandsOfControl_50 (by decide +kernel) ?_
      refine lv_iand hx hb dX0_commandsOfControl_52 ?_
      refine lv_if_ne (tgt := 60) hx hb dX0_commandsOfControl_53 (by decide) (fun hc53 => ?_) (fun hc53 => ?_)
      · rw [if_neg hc53] at hX
        exact J60 g4 g5 g6 g7 g8 g9 g10 g11 g12 g13 g14 g15 g16 g17 r0 r1 r2 r3 y0 _ _ ls (lv_sub hl [1, 0] rfl) hP hD hS hX
      · rw [if_pos hc53] at hX
        unfold bX_commandsOfControl_56 at hX
        refine lv_iconst (v := 1) hx hb dX0_commandsOfControl_56 (by decide +kernel) ?_
        refine lv_goto (tgt := 61) hx hb dX0_commandsOfControl_57 (by decide) ?_
        exact J61 g4 g5 g6 g7 g8 g9 g10 g11 g12 g13 g14 g15 g16 g17 r0 r1 r2 r3 y0 1 _ _ ls (lv_sub hl [1, 0] rfl) hP hD hS hX
  have J40 : ∀ (g4 g5 g6 g7 g8 g9 g10 g11 g12 g13 g14 g15 g16 g17 : Int32) (r0 r1 r2 r3 : Nat → Int32) (x1 : Int32) (H : Heap) (locs : List Loc) (ls : Array Slot), lv_has ls 6 [(0, .ref h0), (1, .int x1)] → va_P D vwC2 (wdX cI h0 a0 a1 a2 a3 g4 g5 g6 g7 g8 g9 g10 g11 g12 g13 g14 g15 g16 g17 r0 r1 r2 r3) H → va_D A (wdX cI h0 a0 a1 a2 a3 g4 g5 g6 g7 g8 g9 g10 g11 g12 g13 g14 g15 g16 g17 r0 r1 r2 r3) → va_S A s.heap H locs → bX_commandsOfControl_40 g4 g5 g6 g7 g8 g9 g10 g11 g12 g13 g14 g15 g16 g17 r0 r1 r2 r3 x1 = X → W p l e (headSpec wsX0_commandsOfControl rmX_commandsOfControl).room s m ([.ref h0] : List Value).toArray below meth c H locs 0 0 Q (F0 m 40 ls []) := by
    intro g4 g5 g6 g7 g8 g9 g10 g11 g12 g13 g14 g15 g16 g17 r0 r1 r2 r3 x1 H locs ls hl hP hD hS hX
    unfold bX_commandsOfControl_40 at hX
    refine lv_iconst (v := 0) hx hb dX0_commandsOfControl_40 (by decide +kernel) ?_
    exact J41 g4 g5 g6 g7 g8 g9 g10 g11 g12 g13 g14 g15 g16 g17 r0 r1 r2 r3 x1 0 _ _ ls (lv_sub hl [0, 1] rfl) hP hD hS hX
  have J21 : ∀ (g4 g5 g6 g7 g8 g9 g10 g11 g12 g13 g14 g15 g16 g17 : Int32) (r0 r1 r2 r3 : Nat → Int32) (y0 : Int32) (H : Heap) (locs : List Loc) (ls : Array Slot), lv_has ls 6 [(0, .ref h0)] → va_P D vwC2 (wdX cI h0 a0 a1 a2 a3 g4 g5 g6 g7 g8 g9 g10 g11 g12 g13 g14 g15 g16 g17 r0 r1 r2 r3) H → va_D A (wdX cI h0 a0 a1 a2 a3 g4 g5 g6 g7 g8 g9 g10 g11 g12 g13 g14 g15 g16 g17 r0 r1 r2 r3) → va_S A s.heap H locs → bX_commandsOfControl_21 g4 g5 g6 g7 g8 g9 g10 g11 g12 g13 g14 g15 g16 g17 r0 r1 r2 r3 y0 = X → W p l e (headSpec wsX0_commandsOfControl rmX_commandsOfControl).room s m ([.ref h0] : List Value).toArray below meth c H locs 0 0 Q (F0 m 21 ls [.int y0]) := by
    intro g4 g5 g6 g7 g8 g9 g10 g11 g12 g13 g14 g15 g16 g17 r0 r1 r2 r3 y0 H locs ls hl hP hD hS hX
    unfold bX_commandsOfControl_21 at hX
    refine lv_istore_n (lv' := [(1, .int y0), (0, .ref h0)]) hx hb dX0_commandsOfControl_21 rfl hl (by decide) rfl (fun ls hl => ?_)
    refine lv_iload_n hx hb dX0_commandsOfControl_22 rfl (lv_at hl 0 rfl) ?_
    refine lv_if_eq (tgt := 40) hx hb dX0_commandsOfControl_23 (by decide) (fun hc23 => ?_) (fun hc23 => ?_)
    · rw [if_pos hc23] at hX
      exact J40 g4 g5 g6 g7 g8 g9 g10 g11 g12 g13 g14 g15 g16 g17 r0 r1 r2 r3 y0 _ _ ls (lv_sub hl [1, 0] rfl) hP hD hS hX
    · rw [if_neg hc23] at hX
      unfold bX_commandsOfControl_26 at hX
      refine lv_aload_n hx hb dX0_commandsOfControl_26 rfl (lv_at hl 1 rfl) ?_
      refine va_get (D := D) (ci := 0) (v := .int g5) (C := RX0) (T := TX0) (N := 18) hx hb hts hinU hown hK hP 0 rfl rfl 5 (by decide) (hts (.fieldLink RX0 65 "BloodCircuitChannels" "alarms" "I") (by decide +kernel)) (fun _ h9 => h9) rfl dX0_commandsOfControl_27 ?_
      refine lv_bipush (v := 47) hx hb dX0_commandsOfControl_30 (by decide +kernel) ?_
      refine lv_iand hx hb dX0_commandsOfControl_32 ?_
      refine lv_if_ne (tgt := 40) hx hb dX0_commandsOfControl_33 (by decide) (fun hc33 => ?_) (fun hc33 => ?_)
      · rw [if_neg hc33] at hX
        exact J40 g4 g5 g6 g7 g8 g9 g10 g11 g12 g13 g14 g15 g16 g17 r0 r1 r2 r3 y0 _ _ ls (lv_sub hl [1, 0] rfl) hP hD hS hX
      · rw [if_pos hc33] at hX
        unfold bX_commandsOfControl_36 at hX
        refine lv_iconst (v := 1) hx hb dX0_commandsOfControl_36 (by decide +kernel) ?_
        refine lv_goto (tgt := 41) hx hb dX0_commandsOfControl_37 (by decide) ?_
        exact J41 g4 g5 g6 g7 g8 g9 g10 g11 g12 g13 g14 g15 g16 g17 r0 r1 r2 r3 y0 1 _ _ ls (lv_sub hl [1, 0] rfl) hP hD hS hX
  have J20 : ∀ (g4 g5 g6 g7 g8 g9 g10 g11 g12 g13 g14 g15 g16 g17 : Int32) (r0 r1 r2 r3 : Nat → Int32) (H : Heap) (locs : List Loc) (ls : Array Slot), lv_has ls 6 [(0, .ref h0)] → va_P D vwC2 (wdX cI h0 a0 a1 a2 a3 g4 g5 g6 g7 g8 g9 g10 g11 g12 g13 g14 g15 g16 g17 r0 r1 r2 r3) H → va_D A (wdX cI h0 a0 a1 a2 a3 g4 g5 g6 g7 g8 g9 g10 g11 g12 g13 g14 g15 g16 g17 r0 r1 r2 r3) → va_S A s.heap H locs → bX_commandsOfControl_20 g4 g5 g6 g7 g8 g9 g10 g11 g12 g13 g14 g15 g16 g17 r0 r1 r2 r3 = X → W p l e (headSpec wsX0_commandsOfControl rmX_commandsOfControl).room s m ([.ref h0] : List Value).toArray below meth c H locs 0 0 Q (F0 m 20 ls []) := by
    intro g4 g5 g6 g7 g8 g9 g10 g11 g12 g13 g14 g15 g16 g17 r0 r1 r2 r3 H locs ls hl hP hD hS hX
    unfold bX_commandsOfControl_20 at hX
    refine lv_iconst (v := 0) hx hb dX0_commandsOfControl_20 (by decide +kernel) ?_
    exact J21 g4 g5 g6 g7 g8 g9 g10 g11 g12 g13 g14 g15 g16 g17 r0 r1 r2 r3 0 _ _ ls (lv_sub hl [0] rfl) hP hD hS hX
  unfold sX_commandsOfControl at hX
  unfold bX_commandsOfControl_0 at hX
  refine lv_aload_n hx hb dX0_commandsOfControl_0 rfl (lv_at hl 0 rfl) ?_
  refine va_get (D := D) (ci := 0) (v := .int g4) (C := RX0) (T := TX0) (N := 18) hx hb hts hinU hown hK hP 0 rfl rfl 4 (by decide) (hts (.fieldLink RX0 33 "BloodCircuitChannels" "phase" "I") (by decide +kernel)) (fun _ h9 => h9) rfl dX0_commandsOfControl_1 ?_
  refine lv_iconst (v := 1) hx hb dX0_commandsOfControl_4 (by decide +kernel) ?_
  refine lv_icmp_lt (tgt := 20) hx hb dX0_commandsOfControl_5 (by decide) (fun hc5 => ?_) (fun hc5 => ?_)
  · rw [if_pos hc5] at hX
    exact J20 g4 g5 g6 g7 g8 g9 g10 g11 g12 g13 g14 g15 g16 g17 r0 r1 r2 r3 _ _ ls (lv_sub hl [0] rfl) hP hD hS hX
  · rw [if_neg hc5] at hX
    unfold bX_commandsOfControl_8 at hX
    refine lv_aload_n hx hb dX0_commandsOfControl_8 rfl (lv_at hl 0 rfl) ?_
    refine va_get (D := D) (ci := 0) (v := .int g4) (C := RX0) (T := TX0) (N := 18) hx hb hts hinU hown hK hP 0 rfl rfl 4 (by decide) (hts (.fieldLink RX0 33 "BloodCircuitChannels" "phase" "I") (by decide +kernel)) (fun _ h9 => h9) rfl dX0_commandsOfControl_9 ?_
    refine lv_iconst (v := 4) hx hb dX0_commandsOfControl_12 (by decide +kernel) ?_
    refine lv_icmp_gt (tgt := 20) hx hb dX0_commandsOfControl_13 (by decide) (fun hc13 => ?_) (fun hc13 => ?_)
    · rw [if_pos hc13] at hX
      exact J20 g4 g5 g6 g7 g8 g9 g10 g11 g12 g13 g14 g15 g16 g17 r0 r1 r2 r3 _ _ ls (lv_sub hl [0] rfl) hP hD hS hX
    · rw [if_neg hc13] at hX
      unfold bX_commandsOfControl_16 at hX
      refine lv_iconst (v := 1) hx hb dX0_commandsOfControl_16 (by decide +kernel) ?_
      refine lv_goto (tgt := 21) hx hb dX0_commandsOfControl_17 (by decide) ?_
      exact J21 g4 g5 g6 g7 g8 g9 g10 g11 g12 g13 g14 g15 g16 g17 r0 r1 r2 r3 1 _ _ ls (lv_sub hl [0] rfl) hP hD hS hX
abbrev rmX_isRawDangerous : Room := { frames := 1, cells := 0, slots := 0, locals := 22 }
set_option maxHeartbeats 4000000 in
set_option maxRecDepth 100000 in
theorem ctX_isRawDangerous (l : Launch) (D : va_G) (cI : ClassId) (h0 a0 a1 a2 a3 sz : Nat) (g4 g5 g6 g7 g8 g9 g10 g11 g12 g13 g14 g15 g16 g17 : Int32) (r0 r1 r2 r3 : Nat → Int32)   : Met l yX0_isRawDangerous wsX0_isRawDangerous rmX_isRawDangerous (va_Pc [.ref h0] (bw_pr D vwC2 [(cI, .int)] (wdX cI h0 a0 a1 a2 a3 g4 g5 g6 g7 g8 g9 g10 g11 g12 g13 g14 g15 g16 g17 r0 r1 r2 r3) sz (tbX (va_A (wdX cI h0 a0 a1 a2 a3 g4 g5 g6 g7 g8 g9 g10 g11 g12 g13 g14 g15 g16 g17 r0 r1 r2 r3) sz)))) (va_Qi (fun r u => r = sX_isRawDangerous g4 g5 g6 g7 g8 g9 g10 g11 g12 g13 g14 g15 g16 g17 r0 r1 r2 r3 ∧ u = (g4, g5, g6, g7, g8, g9, g10, g11, g12, g13, g14, g15, g16, g17, r0, r1, r2, r3)) (bw_at D vwC2 [(cI, .int)] (wfX cI h0 a0 a1 a2 a3) (va_A (wdX cI h0 a0 a1 a2 a3 g4 g5 g6 g7 g8 g9 g10 g11 g12 g13 g14 g15 g16 g17 r0 r1 r2 r3) sz)) (va_A (wdX cI h0 a0 a1 a2 a3 g4 g5 g6 g7 g8 g9 g10 g11 g12 g13 g14 g15 g16 g17 r0 r1 r2 r3) sz)) 0 0 (va_A (wdX cI h0 a0 a1 a2 a3 g4 g5 g6 g7 g8 g9 g10 g11 g12 g13 g14 g15 g16 g17 r0 r1 r2 r3) sz) := by
  refine Met.ofW (cc := cX0_isRawDangerous) (maxL := 1) (ret := (some .boolean)) (by decide) rfl ?_
  intro p e s m args below meth c s₁ B hml hv
  obtain ⟨rfl, hsz, hP, hK, hD0, hT⟩ := hv
  have hx := B.exec
  have hb := B.bytes
  have hr := B.returns
  have hts := atoms_spec (ws := wsX0_isRawDangerous) B.pre
  have hown : s.vm.findClass RX0 = some m.cls := findClass_of_methodNamed B.named
  have hlocks := B.notSynchronized
  subst hsz
  have hD := hD0.self (sz := s.heap.size)
  generalize hAe : va_A (wdX cI h0 a0 a1 a2 a3 g4 g5 g6 g7 g8 g9 g10 g11 g12 g13 g14 g15 g16 g17 r0 r1 r2 r3) s.heap.size = A at hD hT ⊢
  have hA : ∀ q : Nat, s.heap.size ≤ q → A q := fun q h => by rw [← hAe]; exact Or.inr h
  have hS : va_S A s.heap s.heap [] := va_S.rf
  have hl := lv_entry ([.ref h0]) (n := 1) (Nat.le_of_ble_eq_true rfl)
  rw [lg_entry_eq]
  generalize (lg_sl ([.ref h0]) ++ List.replicate (1 - (lg_sl ([.ref h0])).length) Slot.unset).toArray = ls at hl ⊢
  have hl : lv_has ls 1 [(0, .ref h0)] := hl
  generalize hX : sX_isRawDangerous g4 g5 g6 g7 g8 g9 g10 g11 g12 g13 g14 g15 g16 g17 r0 r1 r2 r3 = X
  refine bw_Q (fun Q hQ => ?_)
  have hinU : ∀ w ∈ wsX00, w ∈ wsX0_isRawDangerous := fun w h => List.mem_cons_of_mem _ (List.mem_append_right _ h)
  have J44 : ∀  (H : Heap) (locs : List Loc) (ls : Array Slot), lv_has ls 1 [(0, .ref h0)] → va_P D vwC2 (wdX cI h0 a0 a1 a2 a3 g4 g5 g6 g7 g8 g9 g10 g11 g12 g13 g14 g15 g16 g17 r0 r1 r2 r3) H → va_D A (wdX cI h0 a0 a1 a2 a3 g4 g5 g6 g7 g8 g9 g10 g11 g12 g13 g14 g15 g16 g17 r0 r1 r2 r3) → va_S A s.heap H locs → bX_isRawDangerous_44 g4 g5 g6 g7 g8 g9 g10 g11 g12 g13 g14 g15 g16 g17 r0 r1 r2 r3 = X → W p l e (headSpec wsX0_isRawDangerous rmX_isRawDangerous).room s m ([.ref h0] : List Value).toArray below meth c H locs 0 0 Q (F0 m 44 ls []) := by
    intro  H locs ls hl hP hD hS hX
    unfold bX_isRawDangerous_44 at hX
    refine lv_iconst (v := 1) hx hb dX0_isRawDangerous_44 (by decide +kernel) ?_
    refine lv_goto (tgt := 49) hx hb dX0_isRawDangerous_45 (by decide) ?_
    subst hQ
    exact W.zret (ty := .boolean) (v := 1) hx hb hr (by decide +kernel) (fun t ht hW => ⟨⟨1, (g4, g5, g6, g7, g8, g9, g10, g11, g12, g13, g14, g15, g16, g17, r0, r1, r2, r3), rfl, ⟨hX, rfl⟩, by rw [ht]; exact hP, va_K.moved hW.alike hK, hD⟩, hS.F ht⟩) hS.2.2 dX0_isRawDangerous_49
  unfold sX_isRawDangerous at hX
  unfold bX_isRawDangerous_0 at hX
  refine lv_aload_n hx hb dX0_isRawDangerous_0 rfl (lv_at hl 0 rfl) ?_
  refine va_get (D := D) (ci := 0) (v := .ref a1) (C := RX0) (T := TX0) (N := 18) hx hb hts hinU hown hK hP 0 rfl rfl 1 (by decide) (hts (.fieldLink RX0 24 "BloodCircuitChannels" "raw" "[I") (by decide +kernel)) (fun _ h9 => h9) rfl dX0_isRawDangerous_1 ?_
  refine lv_iconst (v := 4) hx hb dX0_isRawDangerous_4 (by decide +kernel) ?_
  refine bw_ld hx hb hK hP 2 0 rfl rfl 4 (by decide +kernel) (bw_in (by decide +kernel)) dX0_isRawDangerous_5 ?_
  refine lv_if_ne (tgt := 44) hx hb dX0_isRawDangerous_6 (by decide) (fun hc6 => ?_) (fun hc6 => ?_)
  · rw [if_neg hc6] at hX
    exact J44  _ _ ls (lv_sub hl [0] rfl) hP hD hS hX
  · rw [if_pos hc6] at hX
    unfold bX_isRawDangerous_9 at hX
    refine lv_aload_n hx hb dX0_isRawDangerous_9 rfl (lv_at hl 0 rfl) ?_
    refine va_get (D := D) (ci := 0) (v := .ref a1) (C := RX0) (T := TX0) (N := 18) hx hb hts hinU hown hK hP 0 rfl rfl 1 (by decide) (hts (.fieldLink RX0 24 "BloodCircuitChannels" "raw" "[I") (by decide +kernel)) (fun _ h9 => h9) rfl dX0_isRawDangerous_10 ?_
    refine lv_iconst (v := 0) hx hb dX0_isRawDangerous_13 (by decide +kernel) ?_
    refine bw_ld hx hb hK hP 2 0 rfl rfl 0 (by decide +kernel) (bw_in (by decide +kernel)) dX0_isRawDangerous_14 ?_
    refine lv_sipush (v := (-350)) hx hb dX0_isRawDangerous_15 (by decide +kernel) ?_
    refine lv_sipush (v := 250) hx hb dX0_isRawDangerous_18 (by decide +kernel) ?_
    refine bw_Si (As := [.int (r1 0), .int ((-350)), .int 250]) (rest := []) ⟨hx, hb, hml, hown, hts⟩ (ctX_isOutside l _ (r1 0) ((-350)) 250) (va_cwS 3 hts gX0_isRawDangerous_X0_isOutside rfl rfl rfl (by decide +kernel) ⟨Nat.le_of_ble_eq_true rfl, Nat.le_of_ble_eq_true rfl⟩) hP hS hA rfl hl.1 rfl (Nat.le_of_ble_eq_true rfl) dX0_isRawDangerous_21 ⟨Nat.le_of_ble_eq_true rfl, Nat.le_of_ble_eq_true rfl⟩ (fun H locs hP hS => ?_)
    refine lv_if_ne (tgt := 44) hx hb dX0_isRawDangerous_24 (by decide) (fun hc24 => ?_) (fun hc24 => ?_)
    · rw [if_neg hc24] at hX
      exact J44  _ _ ls (lv_sub hl [0] rfl) hP hD hS hX
    · rw [if_pos hc24] at hX
      unfold bX_isRawDangerous_27 at hX
      refine lv_aload_n hx hb dX0_isRawDangerous_27 rfl (lv_at hl 0 rfl) ?_
      refine va_get (D := D) (ci := 0) (v := .ref a1) (C := RX0) (T := TX0) (N := 18) hx hb hts hinU hown hK hP 0 rfl rfl 1 (by decide) (hts (.fieldLink RX0 24 "BloodCircuitChannels" "raw" "[I") (by decide +kernel)) (fun _ h9 => h9) rfl dX0_isRawDangerous_28 ?_
      refine lv_iconst (v := 1) hx hb dX0_isRawDangerous_31 (by decide +kernel) ?_
      refine bw_ld hx hb hK hP 2 0 rfl rfl 1 (by decide +kernel) (bw_in (by decide +kernel)) dX0_isRawDangerous_32 ?_
      refine lv_bipush (v := (-50)) hx hb dX0_isRawDangerous_33 (by decide +kernel) ?_
      refine lv_sipush (v := 450) hx hb dX0_isRawDangerous_35 (by decide +kernel) ?_
      refine bw_Si (As := [.int (r1 1), .int ((-50)), .int 450]) (rest := []) ⟨hx, hb, hml, hown, hts⟩ (ctX_isOutside l _ (r1 1) ((-50)) 450) (va_cwS 3 hts gX0_isRawDangerous_X0_isOutside rfl rfl rfl (by decide +kernel) ⟨Nat.le_of_ble_eq_true rfl, Nat.le_of_ble_eq_true rfl⟩) hP hS hA rfl hl.1 rfl (Nat.le_of_ble_eq_true rfl) dX0_isRawDangerous_38 ⟨Nat.le_of_ble_eq_true rfl, Nat.le_of_ble_eq_true rfl⟩ (fun H locs hP hS => ?_)
      refine lv_if_eq (tgt := 48) hx hb dX0_isRawDangerous_41 (by decide) (fun hc41 => ?_) (fun hc41 => ?_)
      · rw [if_pos hc41] at hX
        unfold bX_isRawDangerous_48 at hX
        refine lv_iconst (v := 0) hx hb dX0_isRawDangerous_48 (by decide +kernel) ?_
        subst hQ
        exact W.zret (ty := .boolean) (v := 0) hx hb hr (by decide +kernel) (fun t ht hW => ⟨⟨0, (g4, g5, g6, g7, g8, g9, g10, g11, g12, g13, g14, g15, g16, g17, r0, r1, r2, r3), rfl, ⟨hX, rfl⟩, by rw [ht]; exact hP, va_K.moved hW.alike hK, hD⟩, hS.F ht⟩) hS.2.2 dX0_isRawDangerous_49
      · rw [if_neg hc41] at hX
        exact J44  _ _ ls (lv_sub hl [0] rfl) hP hD hS hX
abbrev rmX_isStrokeTooMuch : Room := { frames := 0, cells := 0, slots := 0, locals := 0 }
set_option maxHeartbeats 4000000 in
set_option maxRecDepth 100000 in
theorem ctX_isStrokeTooMuch (l : Launch) (D : va_G) (cI : ClassId) (h0 a0 a1 a2 a3 sz : Nat) (g4 g5 g6 g7 g8 g9 g10 g11 g12 g13 g14 g15 g16 g17 : Int32) (r0 r1 r2 r3 : Nat → Int32)   : Met l yX0_isStrokeTooMuch wsX0_isStrokeTooMuch rmX_isStrokeTooMuch (va_Pc [.ref h0] (bw_pr D vwC2 [(cI, .int)] (wdX cI h0 a0 a1 a2 a3 g4 g5 g6 g7 g8 g9 g10 g11 g12 g13 g14 g15 g16 g17 r0 r1 r2 r3) sz (tbX (va_A (wdX cI h0 a0 a1 a2 a3 g4 g5 g6 g7 g8 g9 g10 g11 g12 g13 g14 g15 g16 g17 r0 r1 r2 r3) sz)))) (va_Qi (fun r u => r = sX_isStrokeTooMuch g4 g5 g6 g7 g8 g9 g10 g11 g12 g13 g14 g15 g16 g17 r0 r1 r2 r3 ∧ u = (g4, g5, g6, g7, g8, g9, g10, g11, g12, g13, g14, g15, g16, g17, r0, r1, r2, r3)) (bw_at D vwC2 [(cI, .int)] (wfX cI h0 a0 a1 a2 a3) (va_A (wdX cI h0 a0 a1 a2 a3 g4 g5 g6 g7 g8 g9 g10 g11 g12 g13 g14 g15 g16 g17 r0 r1 r2 r3) sz)) (va_A (wdX cI h0 a0 a1 a2 a3 g4 g5 g6 g7 g8 g9 g10 g11 g12 g13 g14 g15 g16 g17 r0 r1 r2 r3) sz)) 0 0 (va_A (wdX cI h0 a0 a1 a2 a3 g4 g5 g6 g7 g8 g9 g10 g11 g12 g13 g14 g15 g16 g17 r0 r1 r2 r3) sz) := by
  refine Met.ofW (cc := cX0_isStrokeTooMuch) (maxL := 1) (ret := (some .boolean)) (by decide) rfl ?_
  intro p e s m args below meth c s₁ B hml hv
  obtain ⟨rfl, hsz, hP, hK, hD0, hT⟩ := hv
  have hx := B.exec
  have hb := B.bytes
  have hr := B.returns
  have hts := atoms_spec (ws := wsX0_isStrokeTooMuch) B.pre
  have hown : s.vm.findClass RX0 = some m.cls := findClass_of_methodNamed B.named
  have hlocks := B.notSynchronized
  subst hsz
  have hD := hD0.self (sz := s.heap.size)
  generalize hAe : va_A (wdX cI h0 a0 a1 a2 a3 g4 g5 g6 g7 g8 g9 g10 g11 g12 g13 g14 g15 g16 g17 r0 r1 r2 r3) s.heap.size = A at hD hT ⊢
  have hA : ∀ q : Nat, s.heap.size ≤ q → A q := fun q h => by rw [← hAe]; exact Or.inr h
  have hS : va_S A s.heap s.heap [] := va_S.rf
  have hl := lv_entry ([.ref h0]) (n := 1) (Nat.le_of_ble_eq_true rfl)
  rw [lg_entry_eq]
  generalize (lg_sl ([.ref h0]) ++ List.replicate (1 - (lg_sl ([.ref h0])).length) Slot.unset).toArray = ls at hl ⊢
  have hl : lv_has ls 1 [(0, .ref h0)] := hl
  generalize hX : sX_isStrokeTooMuch g4 g5 g6 g7 g8 g9 g10 g11 g12 g13 g14 g15 g16 g17 r0 r1 r2 r3 = X
  refine bw_Q (fun Q hQ => ?_)
  have hinU : ∀ w ∈ wsX00, w ∈ wsX0_isStrokeTooMuch := fun w h => List.mem_cons_of_mem _ (List.mem_append_right _ h)
  unfold sX_isStrokeTooMuch at hX
  unfold bX_isStrokeTooMuch_0 at hX
  refine lv_aload_n hx hb dX0_isStrokeTooMuch_0 rfl (lv_at hl 0 rfl) ?_
  refine va_get (D := D) (ci := 0) (v := .int g11) (C := RX0) (T := TX0) (N := 18) hx hb hts hinU hown hK hP 0 rfl rfl 11 (by decide) (hts (.fieldLink RX0 83 "BloodCircuitChannels" "strokes" "I") (by decide +kernel)) (fun _ h9 => h9) rfl dX0_isStrokeTooMuch_1 ?_
  refine lv_iconst (v := 1) hx hb dX0_isStrokeTooMuch_4 (by decide +kernel) ?_
  refine lv_iadd hx hb dX0_isStrokeTooMuch_5 ?_
  refine lv_sipush (v := 500) hx hb dX0_isStrokeTooMuch_6 (by decide +kernel) ?_
  refine lv_imul hx hb dX0_isStrokeTooMuch_9 ?_
  refine lv_aload_n hx hb dX0_isStrokeTooMuch_10 rfl (lv_at hl 0 rfl) ?_
  refine va_get (D := D) (ci := 0) (v := .ref a0) (C := RX0) (T := TX0) (N := 18) hx hb hts hinU hown hK hP 0 rfl rfl 0 (by decide) (hts (.fieldLink RX0 18 "BloodCircuitChannels" "parameters" "[I") (by decide +kernel)) (fun _ h9 => h9) rfl dX0_isStrokeTooMuch_11 ?_
  refine lv_iconst (v := 1) hx hb dX0_isStrokeTooMuch_14 (by decide +kernel) ?_
  refine bw_ld hx hb hK hP 1 0 rfl rfl 1 (by decide +kernel) (bw_in (by decide +kernel)) dX0_isStrokeTooMuch_15 ?_
  refine lv_sipush (v := 1000) hx hb dX0_isStrokeTooMuch_16 (by decide +kernel) ?_
  refine lv_imul hx hb dX0_isStrokeTooMuch_19 ?_
  refine lv_sipush (v := 500) hx hb dX0_isStrokeTooMuch_20 (by decide +kernel) ?_
  refine lv_iadd hx hb dX0_isStrokeTooMuch_23 ?_
  refine lv_icmp_le (tgt := 31) hx hb dX0_isStrokeTooMuch_24 (by decide) (fun hc24 => ?_) (fun hc24 => ?_)
  · rw [if_pos hc24] at hX
    unfold bX_isStrokeTooMuch_31 at hX
    refine lv_iconst (v := 0) hx hb dX0_isStrokeTooMuch_31 (by decide +kernel) ?_
    subst hQ
    exact W.zret (ty := .boolean) (v := 0) hx hb hr (by decide +kernel) (fun t ht hW => ⟨⟨0, (g4, g5, g6, g7, g8, g9, g10, g11, g12, g13, g14, g15, g16, g17, r0, r1, r2, r3), rfl, ⟨hX, rfl⟩, by rw [ht]; exact hP, va_K.moved hW.alike hK, hD⟩, hS.F ht⟩) hS.2.2 dX0_isStrokeTooMuch_32
  · rw [if_neg hc24] at hX
    unfold bX_isStrokeTooMuch_27 at hX
    refine lv_iconst (v := 1) hx hb dX0_isStrokeTooMuch_27 (by decide +kernel) ?_
    refine lv_goto (tgt := 32) hx hb dX0_isStrokeTooMuch_28 (by decide) ?_
    subst hQ
    exact W.zret (ty := .boolean) (v := 1) hx hb hr (by decide +kernel) (fun t ht hW => ⟨⟨1, (g4, g5, g6, g7, g8, g9, g10, g11, g12, g13, g14, g15, g16, g17, r0, r1, r2, r3), rfl, ⟨hX, rfl⟩, by rw [ht]; exact hP, va_K.moved hW.alike hK, hD⟩, hS.F ht⟩) hS.2.2 dX0_isStrokeTooMuch_32
abbrev rmX_afterProtection : Room := { frames := 2, cells := 0, slots := 0, locals := 42 }
set_option maxHeartbeats 4000000 in
set_option maxRecDepth 100000 in
theorem ctX_afterProtection (l : Launch) (D : va_G) (cI : ClassId) (h0 a0 a1 a2 a3 sz : Nat) (g4 g5 g6 g7 g8 g9 g10 g11 g12 g13 g14 g15 g16 g17 : Int32) (r0 r1 r2 r3 : Nat → Int32) (k1 : Int32)  : Met l yX0_afterProtection wsX0_afterProtection rmX_afterProtection (va_Pc [.ref h0, .int k1] (bw_pr D vwC2 [(cI, .int)] (wdX cI h0 a0 a1 a2 a3 g4 g5 g6 g7 g8 g9 g10 g11 g12 g13 g14 g15 g16 g17 r0 r1 r2 r3) sz (tbX (va_A (wdX cI h0 a0 a1 a2 a3 g4 g5 g6 g7 g8 g9 g10 g11 g12 g13 g14 g15 g16 g17 r0 r1 r2 r3) sz)))) (va_Qi (fun r u => (r, u) = sX_afterProtection g4 g5 g6 g7 g8 g9 g10 g11 g12 g13 g14 g15 g16 g17 r0 r1 r2 r3 k1) (bw_at D vwC2 [(cI, .int)] (wfX cI h0 a0 a1 a2 a3) (va_A (wdX cI h0 a0 a1 a2 a3 g4 g5 g6 g7 g8 g9 g10 g11 g12 g13 g14 g15 g16 g17 r0 r1 r2 r3) sz)) (va_A (wdX cI h0 a0 a1 a2 a3 g4 g5 g6 g7 g8 g9 g10 g11 g12 g13 g14 g15 g16 g17 r0 r1 r2 r3) sz)) 0 0 (va_A (wdX cI h0 a0 a1 a2 a3 g4 g5 g6 g7 g8 g9 g10 g11 g12 g13 g14 g15 g16 g17 r0 r1 r2 r3) sz) := by
  refine Met.ofW (cc := cX0_afterProtection) (maxL := 3) (ret := (some .int)) (by decide) rfl ?_
  intro p e s m args below meth c s₁ B hml hv
  obtain ⟨rfl, hsz, hP, hK, hD0, hT⟩ := hv
  have hx := B.exec
  have hb := B.bytes
  have hr := B.returns
  have hts := atoms_spec (ws := wsX0_afterProtection) B.pre
  have hown : s.vm.findClass RX0 = some m.cls := findClass_of_methodNamed B.named
  have hlocks := B.notSynchronized
  subst hsz
  have hD := hD0.self (sz := s.heap.size)
  generalize hAe : va_A (wdX cI h0 a0 a1 a2 a3 g4 g5 g6 g7 g8 g9 g10 g11 g12 g13 g14 g15 g16 g17 r0 r1 r2 r3) s.heap.size = A at hD hT ⊢
  have hA : ∀ q : Nat, s.heap.size ≤ q → A q := fun q h => by rw [← hAe]; exact Or.inr h
  have hS : va_S A s.heap s.heap [] := va_S.rf
  have hl := lv_entry ([.ref h0, .int k1]) (n := 3) (Nat.le_of_ble_eq_true rfl)
  rw [lg_entry_eq]
  generalize (lg_sl ([.ref h0, .int k1]) ++ List.replicate (3 - (lg_sl ([.ref h0, .int k1])).length) Slot.unset).toArray = ls at hl ⊢
  have hl : lv_has ls 3 [(0, .ref h0), (1, .int k1)] := hl
  generalize hX : sX_afterProtection g4 g5 g6 g7 g8 g9 g10 g11 g12 g13 g14 g15 g16 g17 r0 r1 r2 r3 k1 = X
  refine bw_Q (fun Q hQ => ?_)
  have hinU : ∀ w ∈ wsX00, w ∈ wsX0_afterProtection := fun w h => List.mem_cons_of_mem _ (List.mem_append_right _ h)
  have J75 : ∀ (g4 g5 g6 g7 g8 g9 g10 g11 g12 g13 g14 g15 g16 g17 : Int32) (r0 r1 r2 r3 : Nat → Int32) (x2 : Int32) (H : Heap) (locs : List Loc) (ls : Array Slot), lv_has ls 3 [(0, .ref h0), (2, .int x2)] → va_P D vwC2 (wdX cI h0 a0 a1 a2 a3 g4 g5 g6 g7 g8 g9 g10 g11 g12 g13 g14 g15 g16 g17 r0 r1 r2 r3) H → va_D A (wdX cI h0 a0 a1 a2 a3 g4 g5 g6 g7 g8 g9 g10 g11 g12 g13 g14 g15 g16 g17 r0 r1 r2 r3) → va_S A s.heap H locs → bX_afterProtection_75 g4 g5 g6 g7 g8 g9 g10 g11 g12 g13 g14 g15 g16 g17 r0 r1 r2 r3 x2 = X → W p l e (headSpec wsX0_afterProtection rmX_afterProtection).room s m ([.ref h0, .int k1] : List Value).toArray below meth c H locs 0 0 Q (F0 m 75 ls []) := by
    intro g4 g5 g6 g7 g8 g9 g10 g11 g12 g13 g14 g15 g16 g17 r0 r1 r2 r3 x2 H locs ls hl hP hD hS hX
    unfold bX_afterProtection_75 at hX
    refine lv_iload_n hx hb dX0_afterProtection_75 rfl (lv_at hl 1 rfl) ?_
    subst hQ
    exact W.iret (v := x2) hx hb hr (fun t ht hW => ⟨⟨x2, (g4, g5, g6, g7, g8, g9, g10, g11, g12, g13, g14, g15, g16, g17, r0, r1, r2, r3), rfl, hX, by rw [ht]; exact hP, va_K.moved hW.alike hK, hD⟩, hS.F ht⟩) hS.2.2 dX0_afterProtection_76
  have J70 : ∀ (g4 g5 g6 g7 g8 g9 g10 g11 g12 g13 g14 g15 g16 g17 : Int32) (r0 r1 r2 r3 : Nat → Int32) (x2 : Int32) (H : Heap) (locs : List Loc) (ls : Array Slot), lv_has ls 3 [(0, .ref h0), (2, .int x2)] → va_P D vwC2 (wdX cI h0 a0 a1 a2 a3 g4 g5 g6 g7 g8 g9 g10 g11 g12 g13 g14 g15 g16 g17 r0 r1 r2 r3) H → va_D A (wdX cI h0 a0 a1 a2 a3 g4 g5 g6 g7 g8 g9 g10 g11 g12 g13 g14 g15 g16 g17 r0 r1 r2 r3) → va_S A s.heap H locs → bX_afterProtection_70 g4 g5 g6 g7 g8 g9 g10 g11 g12 g13 g14 g15 g16 g17 r0 r1 r2 r3 x2 = X → W p l e (headSpec wsX0_afterProtection rmX_afterProtection).room s m ([.ref h0, .int k1] : List Value).toArray below meth c H locs 0 0 Q (F0 m 70 ls []) := by
    intro g4 g5 g6 g7 g8 g9 g10 g11 g12 g13 g14 g15 g16 g17 r0 r1 r2 r3 x2 H locs ls hl hP hD hS hX
    unfold bX_afterProtection_70 at hX
    refine lv_iload_n hx hb dX0_afterProtection_70 rfl (lv_at hl 1 rfl) ?_
    refine lv_bipush (v := (-9)) hx hb dX0_afterProtection_71 (by decide +kernel) ?_
    refine lv_iand hx hb dX0_afterProtection_73 ?_
    refine lv_istore_n (lv' := [(2, .int (x2 &&& ((-9)))), (0, .ref h0)]) hx hb dX0_afterProtection_74 rfl hl (by decide) rfl (fun ls hl => ?_)
    exact J75 g4 g5 g6 g7 g8 g9 g10 g11 g12 g13 g14 g15 g16 g17 r0 r1 r2 r3 (x2 &&& ((-9))) _ _ ls (lv_sub hl [1, 0] rfl) hP hD hS hX
  have J55 : ∀ (g4 g5 g6 g7 g8 g9 g10 g11 g12 g13 g14 g15 g16 g17 : Int32) (r0 r1 r2 r3 : Nat → Int32) (x2 : Int32) (H : Heap) (locs : List Loc) (ls : Array Slot), lv_has ls 3 [(0, .ref h0), (2, .int x2)] → va_P D vwC2 (wdX cI h0 a0 a1 a2 a3 g4 g5 g6 g7 g8 g9 g10 g11 g12 g13 g14 g15 g16 g17 r0 r1 r2 r3) H → va_D A (wdX cI h0 a0 a1 a2 a3 g4 g5 g6 g7 g8 g9 g10 g11 g12 g13 g14 g15 g16 g17 r0 r1 r2 r3) → va_S A s.heap H locs → bX_afterProtection_55 g4 g5 g6 g7 g8 g9 g10 g11 g12 g13 g14 g15 g16 g17 r0 r1 r2 r3 x2 = X → W p l e (headSpec wsX0_afterProtection rmX_afterProtection).room s m ([.ref h0, .int k1] : List Value).toArray below meth c H locs 0 0 Q (F0 m 55 ls []) := by
    intro g4 g5 g6 g7 g8 g9 g10 g11 g12 g13 g14 g15 g16 g17 r0 r1 r2 r3 x2 H locs ls hl hP hD hS hX
    unfold bX_afterProtection_55 at hX
    refine lv_aload_n hx hb dX0_afterProtection_55 rfl (lv_at hl 0 rfl) ?_
    refine va_get (D := D) (ci := 0) (v := .int g4) (C := RX0) (T := TX0) (N := 18) hx hb hts hinU hown hK hP 0 rfl rfl 4 (by decide) (hts (.fieldLink RX0 33 "BloodCircuitChannels" "phase" "I") (by decide +kernel)) (fun _ h9 => h9) rfl dX0_afterProtection_56 ?_
    refine lv_iconst (v := 3) hx hb dX0_afterProtection_59 (by decide +kernel) ?_
    refine lv_icmp_ne (tgt := 70) hx hb dX0_afterProtection_60 (by decide) (fun hc60 => ?_) (fun hc60 => ?_)
    · rw [if_neg hc60] at hX
      exact J70 g4 g5 g6 g7 g8 g9 g10 g11 g12 g13 g14 g15 g16 g17 r0 r1 r2 r3 x2 _ _ ls (lv_sub hl [0, 1] rfl) hP hD hS hX
    · rw [if_pos hc60] at hX
      unfold bX_afterProtection_63 at hX
      refine lv_aload_n hx hb dX0_afterProtection_63 rfl (lv_at hl 0 rfl) ?_
      refine bw_Vi (wr := []) (As := []) (rest := []) ⟨hx, hb, hml, hown, hts⟩ (ctX_isStrokeTooMuch l D cI h0 a0 a1 a2 a3 _ g4 g5 g6 g7 g8 g9 g10 g11 g12 g13 g14 g15 g16 g17 r0 r1 r2 r3) (cwV 0 hts gX0_afterProtection_X0_isStrokeTooMuch rfl rfl rfl (by decide +kernel) ⟨Nat.le_of_ble_eq_true rfl, Nat.le_of_ble_eq_true rfl⟩) hK hP hD hS hA (tbX_bl) (tbX_to hT hS (bw_free (wr := []) hD hS hA)) 0 rfl rfl rfl hl.1 rfl (Nat.le_of_ble_eq_true rfl) dX0_afterProtection_64 ⟨Nat.le_of_ble_eq_true rfl, Nat.le_of_ble_eq_true rfl⟩ (fun q1 u H locs hu hP hD hS => ?_)
      obtain ⟨hr1, rfl⟩ := hu
      subst hr1
      have hP : va_P D vwC2 (wdX cI h0 a0 a1 a2 a3 g4 g5 g6 g7 g8 g9 g10 g11 g12 g13 g14 g15 g16 g17 r0 r1 r2 r3) H := hP
      have hD : va_D A (wdX cI h0 a0 a1 a2 a3 g4 g5 g6 g7 g8 g9 g10 g11 g12 g13 g14 g15 g16 g17 r0 r1 r2 r3) := hD
      refine lv_if_eq (tgt := 75) hx hb dX0_afterProtection_67 (by decide) (fun hc67 => ?_) (fun hc67 => ?_)
      · rw [if_pos hc67] at hX
        exact J75 g4 g5 g6 g7 g8 g9 g10 g11 g12 g13 g14 g15 g16 g17 r0 r1 r2 r3 x2 _ _ ls (lv_sub hl [0, 1] rfl) hP hD hS hX
      · rw [if_neg hc67] at hX
        exact J70 g4 g5 g6 g7 g8 g9 g10 g11 g12 g13 g14 g15 g16 g17 r0 r1 r2 r3 x2 _ _ ls (lv_sub hl [0, 1] rfl) hP hD hS hX
  have J31 : ∀ (g4 g5 g6 g7 g8 g9 g10 g11 g12 g13 g14 g15 g16 g17 : Int32) (r0 r1 r2 r3 : Nat → Int32) (x2 : Int32) (H : Heap) (locs : List Loc) (ls : Array Slot), lv_has ls 3 [(0, .ref h0), (2, .int x2)] → va_P D vwC2 (wdX cI h0 a0 a1 a2 a3 g4 g5 g6 g7 g8 g9 g10 g11 g12 g13 g14 g15 g16 g17 r0 r1 r2 r3) H → va_D A (wdX cI h0 a0 a1 a2 a3 g4 g5 g6 g7 g8 g9 g10 g11 g12 g13 g14 g15 g16 g17 r0 r1 r2 r3) → va_S A s.heap H locs → bX_afterProtection_31 g4 g5 g6 g7 g8 g9 g10 g11 g12 g13 g14 g15 g16 g17 r0 r1 r2 r3 x2 = X → W p l e (headSpec wsX0_afterProtection rmX_afterProtection).room s m ([.ref h0, .int k1] : List Value).toArray below meth c H locs 0 0 Q (F0 m 31 ls []) := by
    intro g4 g5 g6 g7 g8 g9 g10 g11 g12 g13 g14 g15 g16 g17 r0 r1 r2 r3 x2 H locs ls hl hP hD hS hX
    unfold bX_afterProtection_31 at hX
    refine lv_aload_n hx hb dX0_afterProtection_31 rfl (lv_at hl 0 rfl) ?_
    refine va_get (D := D) (ci := 0) (v := .int g4) (C := RX0) (T := TX0) (N := 18) hx hb hts hinU hown hK hP 0 rfl rfl 4 (by decide) (hts (.fieldLink RX0 33 "BloodCircuitChannels" "phase" "I") (by decide +kernel)) (fun _ h9 => h9) rfl dX0_afterProtection_32 ?_
    refine lv_iconst (v := 3) hx hb dX0_afterProtection_35 (by decide +kernel) ?_
    refine lv_icmp_ne (tgt := 55) hx hb dX0_afterProtection_36 (by decide) (fun hc36 => ?_) (fun hc36 => ?_)
    · rw [if_neg hc36] at hX
      exact J55 g4 g5 g6 g7 g8 g9 g10 g11 g12 g13 g14 g15 g16 g17 r0 r1 r2 r3 x2 _ _ ls (lv_sub hl [0, 1] rfl) hP hD hS hX
    · rw [if_pos hc36] at hX
      unfold bX_afterProtection_39 at hX
      refine lv_aload_n hx hb dX0_afterProtection_39 rfl (lv_at hl 0 rfl) ?_
      refine va_get (D := D) (ci := 0) (v := .ref a1) (C := RX0) (T := TX0) (N := 18) hx hb hts hinU hown hK hP 0 rfl rfl 1 (by decide) (hts (.fieldLink RX0 24 "BloodCircuitChannels" "raw" "[I") (by decide +kernel)) (fun _ h9 => h9) rfl dX0_afterProtection_40 ?_
      refine lv_iconst (v := 2) hx hb dX0_afterProtection_43 (by decide +kernel) ?_
      refine bw_ld hx hb hK hP 2 0 rfl rfl 2 (by decide +kernel) (bw_in (by decide +kernel)) dX0_afterProtection_44 ?_
      refine lv_sipush (v := 410) hx hb dX0_afterProtection_45 (by decide +kernel) ?_
      refine lv_icmp_le (tgt := 55) hx hb dX0_afterProtection_48 (by decide) (fun hc48 => ?_) (fun hc48 => ?_)
      · rw [if_pos hc48] at hX
        exact J55 g4 g5 g6 g7 g8 g9 g10 g11 g12 g13 g14 g15 g16 g17 r0 r1 r2 r3 x2 _ _ ls (lv_sub hl [0, 1] rfl) hP hD hS hX
      · rw [if_neg hc48] at hX
        unfold bX_afterProtection_51 at hX
        refine lv_iload_n hx hb dX0_afterProtection_51 rfl (lv_at hl 1 rfl) ?_
        refine lv_iconst (v := 4) hx hb dX0_afterProtection_52 (by decide +kernel) ?_
        refine lv_ior hx hb dX0_afterProtection_53 ?_
        refine lv_istore_n (lv' := [(2, .int (x2 ||| 4)), (0, .ref h0)]) hx hb dX0_afterProtection_54 rfl hl (by decide) rfl (fun ls hl => ?_)
        exact J55 g4 g5 g6 g7 g8 g9 g10 g11 g12 g13 g14 g15 g16 g17 r0 r1 r2 r3 (x2 ||| 4) _ _ ls (lv_sub hl [1, 0] rfl) hP hD hS hX
  unfold sX_afterProtection at hX
  unfold bX_afterProtection_0 at hX
  refine lv_iload_n hx hb dX0_afterProtection_0 rfl (lv_at hl 1 rfl) ?_
  refine lv_istore_n (lv' := [(2, .int k1), (0, .ref h0), (1, .int k1)]) hx hb dX0_afterProtection_1 rfl hl (by decide) rfl (fun ls hl => ?_)
  refine lv_aload_n hx hb dX0_afterProtection_2 rfl (lv_at hl 1 rfl) ?_
  refine bw_Vi (wr := []) (As := []) (rest := []) ⟨hx, hb, hml, hown, hts⟩ (ctX_isConnected l D cI h0 a0 a1 a2 a3 _ g4 g5 g6 g7 g8 g9 g10 g11 g12 g13 g14 g15 g16 g17 r0 r1 r2 r3) (cwV 0 hts gX0_afterProtection_X0_isConnected rfl rfl rfl (by decide +kernel) ⟨Nat.le_of_ble_eq_true rfl, Nat.le_of_ble_eq_true rfl⟩) hK hP hD hS hA (tbX_bl) (tbX_to hT hS (bw_free (wr := []) hD hS hA)) 0 rfl rfl rfl hl.1 rfl (Nat.le_of_ble_eq_true rfl) dX0_afterProtection_3 ⟨Nat.le_of_ble_eq_true rfl, Nat.le_of_ble_eq_true rfl⟩ (fun q2 u H locs hu hP hD hS => ?_)
  obtain ⟨hr1, rfl⟩ := hu
  subst hr1
  have hP : va_P D vwC2 (wdX cI h0 a0 a1 a2 a3 g4 g5 g6 g7 g8 g9 g10 g11 g12 g13 g14 g15 g16 g17 r0 r1 r2 r3) H := hP
  have hD : va_D A (wdX cI h0 a0 a1 a2 a3 g4 g5 g6 g7 g8 g9 g10 g11 g12 g13 g14 g15 g16 g17 r0 r1 r2 r3) := hD
  refine lv_if_eq (tgt := 31) hx hb dX0_afterProtection_6 (by decide) (fun hc6 => ?_) (fun hc6 => ?_)
  · rw [if_pos hc6] at hX
    exact J31 g4 g5 g6 g7 g8 g9 g10 g11 g12 g13 g14 g15 g16 g17 r0 r1 r2 r3 k1 _ _ ls (lv_sub hl [1, 0] rfl) hP hD hS hX
  · rw [if_neg hc6] at hX
    unfold bX_afterProtection_9 at hX
    refine lv_aload_n hx hb dX0_afterProtection_9 rfl (lv_at hl 1 rfl) ?_
    refine bw_Vi (wr := []) (As := []) (rest := []) ⟨hx, hb, hml, hown, hts⟩ (ctX_isRawDangerous l D cI h0 a0 a1 a2 a3 _ g4 g5 g6 g7 g8 g9 g10 g11 g12 g13 g14 g15 g16 g17 r0 r1 r2 r3) (cwV 0 hts gX0_afterProtection_X0_isRawDangerous rfl rfl rfl (by decide +kernel) ⟨Nat.le_of_ble_eq_true rfl, Nat.le_of_ble_eq_true rfl⟩) hK hP hD hS hA (tbX_bl) (tbX_to hT hS (bw_free (wr := []) hD hS hA)) 0 rfl rfl rfl hl.1 rfl (Nat.le_of_ble_eq_true rfl) dX0_afterProtection_10 ⟨Nat.le_of_ble_eq_true rfl, Nat.le_of_ble_eq_true rfl⟩ (fun q3 u H locs hu hP hD hS => ?_)
    obtain ⟨hr1, rfl⟩ := hu
    subst hr1
    have hP : va_P D vwC2 (wdX cI h0 a0 a1 a2 a3 g4 g5 g6 g7 g8 g9 g10 g11 g12 g13 g14 g15 g16 g17 r0 r1 r2 r3) H := hP
    have hD : va_D A (wdX cI h0 a0 a1 a2 a3 g4 g5 g6 g7 g8 g9 g10 g11 g12 g13 g14 g15 g16 g17 r0 r1 r2 r3) := hD
    refine lv_if_eq (tgt := 31) hx hb dX0_afterProtection_13 (by decide) (fun hc13 => ?_) (fun hc13 => ?_)
    · rw [if_pos hc13] at hX
      exact J31 g4 g5 g6 g7 g8 g9 g10 g11 g12 g13 g14 g15 g16 g17 r0 r1 r2 r3 k1 _ _ ls (lv_sub hl [1, 0] rfl) hP hD hS hX
    · rw [if_neg hc13] at hX
      unfold bX_afterProtection_16 at hX
      refine lv_aload_n hx hb dX0_afterProtection_16 rfl (lv_at hl 1 rfl) ?_
      refine lv_dup hx hb dX0_afterProtection_17 rfl ?_
      refine va_get (D := D) (ci := 0) (v := .int g12) (C := RX0) (T := TX0) (N := 18) hx hb hts hinU hown hK hP 0 rfl rfl 12 (by decide) (hts (.fieldLink RX0 86 "BloodCircuitChannels" "trips" "I") (by decide +kernel)) (fun _ h9 => h9) rfl dX0_afterProtection_18 ?_
      refine lv_iconst (v := 1) hx hb dX0_afterProtection_21 (by decide +kernel) ?_
      refine lv_iadd hx hb dX0_afterProtection_22 ?_
      refine va_put (D := D) (ci := 0) (v := .int (g12 + 1)) (ty := .int) (C := RX0) (T := TX0) (N := 18) hx hb hts hinU tyX0 tyX0_ok nmX0 hown hK hP hD hS 0 rfl rfl 12 (by decide) (hts (.fieldLink RX0 86 "BloodCircuitChannels" "trips" "I") (by decide +kernel)) (fun _ h9 => h9) rfl (by decide +kernel) rfl rfl (Nat.le_of_ble_eq_true rfl) dX0_afterProtection_23 (fun H locs hP hD hS => ?_)
      have hP : va_P D vwC2 (wdX cI h0 a0 a1 a2 a3 g4 g5 g6 g7 g8 g9 g10 g11 (g12 + 1) g13 g14 g15 g16 g17 r0 r1 r2 r3) H := hP
      have hD : va_D A (wdX cI h0 a0 a1 a2 a3 g4 g5 g6 g7 g8 g9 g10 g11 (g12 + 1) g13 g14 g15 g16 g17 r0 r1 r2 r3) := hD
      refine lv_iload_n hx hb dX0_afterProtection_26 rfl (lv_at hl 0 rfl) ?_
      refine lv_bipush (v := (-12)) hx hb dX0_afterProtection_27 (by decide +kernel) ?_
      refine lv_iand hx hb dX0_afterProtection_29 ?_
      refine lv_istore_n (lv' := [(2, .int (k1 &&& ((-12)))), (0, .ref h0), (1, .int k1)]) hx hb dX0_afterProtection_30 rfl hl (by decide) rfl (fun ls hl => ?_)
      exact J31 g4 g5 g6 g7 g8 g9 g10 g11 (g12 + 1) g13 g14 g15 g16 g17 r0 r1 r2 r3 (k1 &&& ((-12))) _ _ ls (lv_sub hl [1, 0] rfl) hP hD hS hX
abbrev rmX_countTowardsEnd : Room := { frames := 1, cells := 0, slots := 0, locals := 21 }
set_option maxHeartbeats 4000000 in
set_option maxRecDepth 100000 in
theorem ctX_countTowardsEnd (l : Launch) (D : va_G) (cI : ClassId) (h0 a0 a1 a2 a3 sz : Nat) (g4 g5 g6 g7 g8 g9 g10 g11 g12 g13 g14 g15 g16 g17 : Int32) (r0 r1 r2 r3 : Nat → Int32)   : Met l yX0_countTowardsEnd wsX0_countTowardsEnd rmX_countTowardsEnd (va_Pc [.ref h0] (bw_pr D vwC2 [(cI, .int)] (wdX cI h0 a0 a1 a2 a3 g4 g5 g6 g7 g8 g9 g10 g11 g12 g13 g14 g15 g16 g17 r0 r1 r2 r3) sz (tbX (va_A (wdX cI h0 a0 a1 a2 a3 g4 g5 g6 g7 g8 g9 g10 g11 g12 g13 g14 g15 g16 g17 r0 r1 r2 r3) sz)))) (va_Qv (fun u => u = sX_countTowardsEnd g4 g5 g6 g7 g8 g9 g10 g11 g12 g13 g14 g15 g16 g17 r0 r1 r2 r3) (bw_at D vwC2 [(cI, .int)] (wfX cI h0 a0 a1 a2 a3) (va_A (wdX cI h0 a0 a1 a2 a3 g4 g5 g6 g7 g8 g9 g10 g11 g12 g13 g14 g15 g16 g17 r0 r1 r2 r3) sz)) (va_A (wdX cI h0 a0 a1 a2 a3 g4 g5 g6 g7 g8 g9 g10 g11 g12 g13 g14 g15 g16 g17 r0 r1 r2 r3) sz)) 0 0 (va_A (wdX cI h0 a0 a1 a2 a3 g4 g5 g6 g7 g8 g9 g10 g11 g12 g13 g14 g15 g16 g17 r0 r1 r2 r3) sz) := by
  refine Met.ofW (cc := cX0_countTowardsEnd) (maxL := 2) (ret := none) (by decide) rfl ?_
  intro p e s m args below meth c s₁ B hml hv
  obtain ⟨rfl, hsz, hP, hK, hD0, hT⟩ := hv
  have hx := B.exec
  have hb := B.bytes
  have hr := B.returns
  have hts := atoms_spec (ws := wsX0_countTowardsEnd) B.pre
  have hown : s.vm.findClass RX0 = some m.cls := findClass_of_methodNamed B.named
  have hlocks := B.notSynchronized
  subst hsz
  have hD := hD0.self (sz := s.heap.size)
  generalize hAe : va_A (wdX cI h0 a0 a1 a2 a3 g4 g5 g6 g7 g8 g9 g10 g11 g12 g13 g14 g15 g16 g17 r0 r1 r2 r3) s.heap.size = A at hD hT ⊢
  have hA : ∀ q : Nat, s.heap.size ≤ q → A q := fun q h => by rw [← hAe]; exact Or.inr h
  have hS : va_S A s.heap s.heap [] := va_S.rf
  have hl := lv_entry ([.ref h0]) (n := 2) (Nat.le_of_ble_eq_true rfl)
  rw [lg_entry_eq]
  generalize (lg_sl ([.ref h0]) ++ List.replicate (2 - (lg_sl ([.ref h0])).length) Slot.unset).toArray = ls at hl ⊢
  have hl : lv_has ls 2 [(0, .ref h0)] := hl
  generalize hX : sX_countTowardsEnd g4 g5 g6 g7 g8 g9 g10 g11 g12 g13 g14 g15 g16 g17 r0 r1 r2 r3 = X
  refine bw_Q (fun Q hQ => ?_)
  have hinU : ∀ w ∈ wsX00, w ∈ wsX0_countTowardsEnd := fun w h => List.mem_cons_of_mem _ (List.mem_append_right _ h)
  have J53 : ∀ (g4 g5 g6 g7 g8 g9 g10 g11 g12 g13 g14 g15 g16 g17 : Int32) (r0 r1 r2 r3 : Nat → Int32) (H : Heap) (locs : List Loc) (ls : Array Slot), lv_has ls 2 [(0, .ref h0)] → va_P D vwC2 (wdX cI h0 a0 a1 a2 a3 g4 g5 g6 g7 g8 g9 g10 g11 g12 g13 g14 g15 g16 g17 r0 r1 r2 r3) H → va_D A (wdX cI h0 a0 a1 a2 a3 g4 g5 g6 g7 g8 g9 g10 g11 g12 g13 g14 g15 g16 g17 r0 r1 r2 r3) → va_S A s.heap H locs → bX_countTowardsEnd_53 g4 g5 g6 g7 g8 g9 g10 g11 g12 g13 g14 g15 g16 g17 r0 r1 r2 r3 = X → W p l e (headSpec wsX0_countTowardsEnd rmX_countTowardsEnd).room s m ([.ref h0] : List Value).toArray below meth c H locs 0 0 Q (F0 m 53 ls []) := by
    intro g4 g5 g6 g7 g8 g9 g10 g11 g12 g13 g14 g15 g16 g17 r0 r1 r2 r3 H locs ls hl hP hD hS hX
    unfold bX_countTowardsEnd_53 at hX
    refine lv_aload_n hx hb dX0_countTowardsEnd_53 rfl (lv_at hl 0 rfl) ?_
    refine va_get (D := D) (ci := 0) (v := .int g4) (C := RX0) (T := TX0) (N := 18) hx hb hts hinU hown hK hP 0 rfl rfl 4 (by decide) (hts (.fieldLink RX0 33 "BloodCircuitChannels" "phase" "I") (by decide +kernel)) (fun _ h9 => h9) rfl dX0_countTowardsEnd_54 ?_
    refine lv_iconst (v := 3) hx hb dX0_countTowardsEnd_57 (by decide +kernel) ?_
    refine lv_icmp_ne (tgt := 77) hx hb dX0_countTowardsEnd_58 (by decide) (fun hc58 => ?_) (fun hc58 => ?_)
    · rw [if_neg hc58] at hX
      subst hQ
      exact W.vret hx hb hr (fun t ht hW => ⟨⟨(g4, g5, g6, g7, g8, g9, g10, g11, g12, g13, g14, g15, g16, g17, r0, r1, r2, r3), rfl, hX, by rw [ht]; exact hP, va_K.moved hW.alike hK, hD⟩, hS.F ht⟩) hS.2.2 dX0_countTowardsEnd_77
    · rw [if_pos hc58] at hX
      unfold bX_countTowardsEnd_61 at hX
      refine lv_aload_n hx hb dX0_countTowardsEnd_61 rfl (lv_at hl 0 rfl) ?_
      refine va_get (D := D) (ci := 0) (v := .int g9) (C := RX0) (T := TX0) (N := 18) hx hb hts hinU hown hK hP 0 rfl rfl 9 (by decide) (hts (.fieldLink RX0 77 "BloodCircuitChannels" "effective" "I") (by decide +kernel)) (fun _ h9 => h9) rfl dX0_countTowardsEnd_62 ?_
      refine lv_aload_n hx hb dX0_countTowardsEnd_65 rfl (lv_at hl 0 rfl) ?_
      refine bw_Vi (wr := []) (As := []) (rest := [.int g9]) ⟨hx, hb, hml, hown, hts⟩ (ctX_ticksOfTreatment l D cI h0 a0 a1 a2 a3 _ g4 g5 g6 g7 g8 g9 g10 g11 g12 g13 g14 g15 g16 g17 r0 r1 r2 r3) (cwV 0 hts gX0_countTowardsEnd_X0_ticksOfTreatment rfl rfl rfl (by decide +kernel) ⟨Nat.le_of_ble_eq_true rfl, Nat.le_of_ble_eq_true rfl⟩) hK hP hD hS hA (tbX_bl) (tbX_to hT hS (bw_free (wr := []) hD hS hA)) 0 rfl rfl rfl hl.1 rfl (Nat.le_of_ble_eq_true rfl) dX0_countTowardsEnd_66 ⟨Nat.le_of_ble_eq_true rfl, Nat.le_of_ble_eq_true rfl⟩ (fun q1 u H locs hu hP hD hS => ?_)
      obtain ⟨hr1, rfl⟩ := hu
      subst hr1
      have hP : va_P D vwC2 (wdX cI h0 a0 a1 a2 a3 g4 g5 g6 g7 g8 g9 g10 g11 g12 g13 g14 g15 g16 g17 r0 r1 r2 r3) H := hP
      have hD : va_D A (wdX cI h0 a0 a1 a2 a3 g4 g5 g6 g7 g8 g9 g10 g11 g12 g13 g14 g15 g16 g17 r0 r1 r2 r3) := hD
      refine lv_icmp_lt (tgt := 77) hx hb dX0_countTowardsEnd_69 (by decide) (fun hc69 => ?_) (fun hc69 => ?_)
      · rw [if_pos hc69] at hX
        subst hQ
        exact W.vret hx hb hr (fun t ht hW => ⟨⟨(g4, g5, g6, g7, g8, g9, g10, g11, g12, g13, g14, g15, g16, g17, r0, r1, r2, r3), rfl, hX, by rw [ht]; exact hP, va_K.moved hW.alike hK, hD⟩, hS.F ht⟩) hS.2.2 dX0_countTowardsEnd_77
      · rw [if_neg hc69] at hX
        unfold bX_countTowardsEnd_72 at hX
        refine lv_aload_n hx hb dX0_countTowardsEnd_72 rfl (lv_at hl 0 rfl) ?_
        refine lv_iconst (v := 4) hx hb dX0_countTowardsEnd_73 (by decide +kernel) ?_
        refine bw_Vv (wr := []) (As := [.int 4]) (rest := []) ⟨hx, hb, hml, hown, hts⟩ (ctX_beginPhase l D cI h0 a0 a1 a2 a3 _ g4 g5 g6 g7 g8 g9 g10 g11 g12 g13 g14 g15 g16 g17 r0 r1 r2 r3 4) (cwV 1 hts gX0_countTowardsEnd_X0_beginPhase rfl rfl rfl (by decide +kernel) ⟨Nat.le_of_ble_eq_true rfl, Nat.le_of_ble_eq_true rfl⟩) hK hP hD hS hA (tbX_bl) (tbX_to hT hS (bw_free (wr := []) hD hS hA)) 0 rfl rfl rfl hl.1 rfl (Nat.le_of_ble_eq_true rfl) dX0_countTowardsEnd_74 ⟨Nat.le_of_ble_eq_true rfl, Nat.le_of_ble_eq_true rfl⟩ (fun u H locs hu hP hD hS => ?_)
        obtain ⟨g4c2, g5c2, g6c2, g7c2, g8c2, g9c2, g10c2, g11c2, g12c2, g13c2, g14c2, g15c2, g16c2, g17c2, r0c2, r1c2, r2c2, r3c2⟩ := u
        have hu2 := hu
        rw [← hu] at hX
        have hP : va_P D vwC2 (wdX cI h0 a0 a1 a2 a3 g4c2 g5c2 g6c2 g7c2 g8c2 g9c2 g10c2 g11c2 g12c2 g13c2 g14c2 g15c2 g16c2 g17c2 r0c2 r1c2 r2c2 r3c2) H := hP
        have hD : va_D A (wdX cI h0 a0 a1 a2 a3 g4c2 g5c2 g6c2 g7c2 g8c2 g9c2 g10c2 g11c2 g12c2 g13c2 g14c2 g15c2 g16c2 g17c2 r0c2 r1c2 r2c2 r3c2) := hD
        subst hQ
        exact W.vret hx hb hr (fun t ht hW => ⟨⟨(g4c2, g5c2, g6c2, g7c2, g8c2, g9c2, g10c2, g11c2, g12c2, g13c2, g14c2, g15c2, g16c2, g17c2, r0c2, r1c2, r2c2, r3c2), rfl, hX, by rw [ht]; exact hP, va_K.moved hW.alike hK, hD⟩, hS.F ht⟩) hS.2.2 dX0_countTowardsEnd_77
  have J43 : ∀ (g4 g5 g6 g7 g8 g9 g10 g11 g12 g13 g14 g15 g16 g17 : Int32) (r0 r1 r2 r3 : Nat → Int32) (H : Heap) (locs : List Loc) (ls : Array Slot), lv_has ls 2 [(0, .ref h0)] → va_P D vwC2 (wdX cI h0 a0 a1 a2 a3 g4 g5 g6 g7 g8 g9 g10 g11 g12 g13 g14 g15 g16 g17 r0 r1 r2 r3) H → va_D A (wdX cI h0 a0 a1 a2 a3 g4 g5 g6 g7 g8 g9 g10 g11 g12 g13 g14 g15 g16 g17 r0 r1 r2 r3) → va_S A s.heap H locs → bX_countTowardsEnd_43 g4 g5 g6 g7 g8 g9 g10 g11 g12 g13 g14 g15 g16 g17 r0 r1 r2 r3 = X → W p l e (headSpec wsX0_countTowardsEnd rmX_countTowardsEnd).room s m ([.ref h0] : List Value).toArray below meth c H locs 0 0 Q (F0 m 43 ls []) := by
    intro g4 g5 g6 g7 g8 g9 g10 g11 g12 g13 g14 g15 g16 g17 r0 r1 r2 r3 H locs ls hl hP hD hS hX
    unfold bX_countTowardsEnd_43 at hX
    refine lv_aload_n hx hb dX0_countTowardsEnd_43 rfl (lv_at hl 0 rfl) ?_
    refine lv_dup hx hb dX0_countTowardsEnd_44 rfl ?_
    refine va_get (D := D) (ci := 0) (v := .int g13) (C := RX0) (T := TX0) (N := 18) hx hb hts hinU hown hK hP 0 rfl rfl 13 (by decide) (hts (.fieldLink RX0 89 "BloodCircuitChannels" "counted" "I") (by decide +kernel)) (fun _ h9 => h9) rfl dX0_countTowardsEnd_45 ?_
    refine lv_iconst (v := 1) hx hb dX0_countTowardsEnd_48 (by decide +kernel) ?_
    refine lv_iadd hx hb dX0_countTowardsEnd_49 ?_
    refine va_put (D := D) (ci := 0) (v := .int (g13 + 1)) (ty := .int) (C := RX0) (T := TX0) (N := 18) hx hb hts hinU tyX0 tyX0_ok nmX0 hown hK hP hD hS 0 rfl rfl 13 (by decide) (hts (.fieldLink RX0 89 "BloodCircuitChannels" "counted" "I") (by decide +kernel)) (fun _ h9 => h9) rfl (by decide +kernel) rfl rfl (Nat.le_of_ble_eq_true rfl) dX0_countTowardsEnd_50 (fun H locs hP hD hS => ?_)
    have hP : va_P D vwC2 (wdX cI h0 a0 a1 a2 a3 g4 g5 g6 g7 g8 g9 g10 g11 g12 (g13 + 1) g14 g15 g16 g17 r0 r1 r2 r3) H := hP
    have hD : va_D A (wdX cI h0 a0 a1 a2 a3 g4 g5 g6 g7 g8 g9 g10 g11 g12 (g13 + 1) g14 g15 g16 g17 r0 r1 r2 r3) := hD
    exact J53 g4 g5 g6 g7 g8 g9 g10 g11 g12 (g13 + 1) g14 g15 g16 g17 r0 r1 r2 r3 _ _ ls (lv_sub hl [0] rfl) hP hD hS hX
  have J21 : ∀ (g4 g5 g6 g7 g8 g9 g10 g11 g12 g13 g14 g15 g16 g17 : Int32) (r0 r1 r2 r3 : Nat → Int32) (y0 : Int32) (H : Heap) (locs : List Loc) (ls : Array Slot), lv_has ls 2 [(0, .ref h0)] → va_P D vwC2 (wdX cI h0 a0 a1 a2 a3 g4 g5 g6 g7 g8 g9 g10 g11 g12 g13 g14 g15 g16 g17 r0 r1 r2 r3) H → va_D A (wdX cI h0 a0 a1 a2 a3 g4 g5 g6 g7 g8 g9 g10 g11 g12 g13 g14 g15 g16 g17 r0 r1 r2 r3) → va_S A s.heap H locs → bX_countTowardsEnd_21 g4 g5 g6 g7 g8 g9 g10 g11 g12 g13 g14 g15 g16 g17 r0 r1 r2 r3 y0 = X → W p l e (headSpec wsX0_countTowardsEnd rmX_countTowardsEnd).room s m ([.ref h0] : List Value).toArray below meth c H locs 0 0 Q (F0 m 21 ls [.int y0]) := by
    intro g4 g5 g6 g7 g8 g9 g10 g11 g12 g13 g14 g15 g16 g17 r0 r1 r2 r3 y0 H locs ls hl hP hD hS hX
    unfold bX_countTowardsEnd_21 at hX
    refine lv_istore_n (lv' := [(1, .int y0), (0, .ref h0)]) hx hb dX0_countTowardsEnd_21 rfl hl (by decide) rfl (fun ls hl => ?_)
    refine lv_aload_n hx hb dX0_countTowardsEnd_22 rfl (lv_at hl 1 rfl) ?_
    refine va_get (D := D) (ci := 0) (v := .int g4) (C := RX0) (T := TX0) (N := 18) hx hb hts hinU hown hK hP 0 rfl rfl 4 (by decide) (hts (.fieldLink RX0 33 "BloodCircuitChannels" "phase" "I") (by decide +kernel)) (fun _ h9 => h9) rfl dX0_countTowardsEnd_23 ?_
    refine lv_iconst (v := 5) hx hb dX0_countTowardsEnd_26 (by decide +kernel) ?_
    refine lv_icmp_eq (tgt := 43) hx hb dX0_countTowardsEnd_27 (by decide) (fun hc27 => ?_) (fun hc27 => ?_)
    · rw [if_pos hc27] at hX
      exact J43 g4 g5 g6 g7 g8 g9 g10 g11 g12 g13 g14 g15 g16 g17 r0 r1 r2 r3 _ _ ls (lv_sub hl [1] rfl) hP hD hS hX
    · rw [if_neg hc27] at hX
      unfold bX_countTowardsEnd_30 at hX
      refine lv_iload_n hx hb dX0_countTowardsEnd_30 rfl (lv_at hl 0 rfl) ?_
      refine lv_if_eq (tgt := 53) hx hb dX0_countTowardsEnd_31 (by decide) (fun hc31 => ?_) (fun hc31 => ?_)
      · rw [if_pos hc31] at hX
        exact J53 g4 g5 g6 g7 g8 g9 g10 g11 g12 g13 g14 g15 g16 g17 r0 r1 r2 r3 _ _ ls (lv_sub hl [1] rfl) hP hD hS hX
      · rw [if_neg hc31] at hX
        unfold bX_countTowardsEnd_34 at hX
        refine lv_aload_n hx hb dX0_countTowardsEnd_34 rfl (lv_at hl 1 rfl) ?_
        refine va_get (D := D) (ci := 0) (v := .int g7) (C := RX0) (T := TX0) (N := 18) hx hb hts hinU hown hK hP 0 rfl rfl 7 (by decide) (hts (.fieldLink RX0 74 "BloodCircuitChannels" "outputs" "I") (by decide +kernel)) (fun _ h9 => h9) rfl dX0_countTowardsEnd_35 ?_
        refine lv_iconst (v := 1) hx hb dX0_countTowardsEnd_38 (by decide +kernel) ?_
        refine lv_iand hx hb dX0_countTowardsEnd_39 ?_
        refine lv_if_eq (tgt := 53) hx hb dX0_countTowardsEnd_40 (by decide) (fun hc40 => ?_) (fun hc40 => ?_)
        · rw [if_pos hc40] at hX
          exact J53 g4 g5 g6 g7 g8 g9 g10 g11 g12 g13 g14 g15 g16 g17 r0 r1 r2 r3 _ _ ls (lv_sub hl [1] rfl) hP hD hS hX
        · rw [if_neg hc40] at hX
          exact J43 g4 g5 g6 g7 g8 g9 g10 g11 g12 g13 g14 g15 g16 g17 r0 r1 r2 r3 _ _ ls (lv_sub hl [1] rfl) hP hD hS hX
  have J16 : ∀ (g4 g5 g6 g7 g8 g9 g10 g11 g12 g13 g14 g15 g16 g17 : Int32) (r0 r1 r2 r3 : Nat → Int32) (H : Heap) (locs : List Loc) (ls : Array Slot), lv_has ls 2 [(0, .ref h0)] → va_P D vwC2 (wdX cI h0 a0 a1 a2 a3 g4 g5 g6 g7 g8 g9 g10 g11 g12 g13 g14 g15 g16 g17 r0 r1 r2 r3) H → va_D A (wdX cI h0 a0 a1 a2 a3 g4 g5 g6 g7 g8 g9 g10 g11 g12 g13 g14 g15 g16 g17 r0 r1 r2 r3) → va_S A s.heap H locs → bX_countTowardsEnd_16 g4 g5 g6 g7 g8 g9 g10 g11 g12 g13 g14 g15 g16 g17 r0 r1 r2 r3 = X → W p l e (headSpec wsX0_countTowardsEnd rmX_countTowardsEnd).room s m ([.ref h0] : List Value).toArray below meth c H locs 0 0 Q (F0 m 16 ls []) := by
    intro g4 g5 g6 g7 g8 g9 g10 g11 g12 g13 g14 g15 g16 g17 r0 r1 r2 r3 H locs ls hl hP hD hS hX
    unfold bX_countTowardsEnd_16 at hX
    refine lv_iconst (v := 1) hx hb dX0_countTowardsEnd_16 (by decide +kernel) ?_
    refine lv_goto (tgt := 21) hx hb dX0_countTowardsEnd_17 (by decide) ?_
    exact J21 g4 g5 g6 g7 g8 g9 g10 g11 g12 g13 g14 g15 g16 g17 r0 r1 r2 r3 1 _ _ ls (lv_sub hl [0] rfl) hP hD hS hX
  unfold sX_countTowardsEnd at hX
  unfold bX_countTowardsEnd_0 at hX
  refine lv_aload_n hx hb dX0_countTowardsEnd_0 rfl (lv_at hl 0 rfl) ?_
  refine va_get (D := D) (ci := 0) (v := .int g4) (C := RX0) (T := TX0) (N := 18) hx hb hts hinU hown hK hP 0 rfl rfl 4 (by decide) (hts (.fieldLink RX0 33 "BloodCircuitChannels" "phase" "I") (by decide +kernel)) (fun _ h9 => h9) rfl dX0_countTowardsEnd_1 ?_
  refine lv_iconst (v := 1) hx hb dX0_countTowardsEnd_4 (by decide +kernel) ?_
  refine lv_icmp_eq (tgt := 16) hx hb dX0_countTowardsEnd_5 (by decide) (fun hc5 => ?_) (fun hc5 => ?_)
  · rw [if_pos hc5] at hX
    exact J16 g4 g5 g6 g7 g8 g9 g10 g11 g12 g13 g14 g15 g16 g17 r0 r1 r2 r3 _ _ ls (lv_sub hl [0] rfl) hP hD hS hX
  · rw [if_neg hc5] at hX
    unfold bX_countTowardsEnd_8 at hX
    refine lv_aload_n hx hb dX0_countTowardsEnd_8 rfl (lv_at hl 0 rfl) ?_
    refine va_get (D := D) (ci := 0) (v := .int g4) (C := RX0) (T := TX0) (N := 18) hx hb hts hinU hown hK hP 0 rfl rfl 4 (by decide) (hts (.fieldLink RX0 33 "BloodCircuitChannels" "phase" "I") (by decide +kernel)) (fun _ h9 => h9) rfl dX0_countTowardsEnd_9 ?_
    refine lv_iconst (v := 4) hx hb dX0_countTowardsEnd_12 (by decide +kernel) ?_
    refine lv_icmp_ne (tgt := 20) hx hb dX0_countTowardsEnd_13 (by decide) (fun hc13 => ?_) (fun hc13 => ?_)
    · rw [if_neg hc13] at hX
      unfold bX_countTowardsEnd_20 at hX
      refine lv_iconst (v := 0) hx hb dX0_countTowardsEnd_20 (by decide +kernel) ?_
      exact J21 g4 g5 g6 g7 g8 g9 g10 g11 g12 g13 g14 g15 g16 g17 r0 r1 r2 r3 0 _ _ ls (lv_sub hl [0] rfl) hP hD hS hX
    · rw [if_pos hc13] at hX
      exact J16 g4 g5 g6 g7 g8 g9 g10 g11 g12 g13 g14 g15 g16 g17 r0 r1 r2 r3 _ _ ls (lv_sub hl [0] rfl) hP hD hS hX
