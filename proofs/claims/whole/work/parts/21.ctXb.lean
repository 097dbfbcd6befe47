abbrev rmX_areConsistent : Room := { frames := 0, cells := 0, slots := 0, locals := 0 }
set_option maxHeartbeats 4000000 in
set_option maxRecDepth 100000 in
theorem ctX_areConsistent (l : Launch) (D : va_G) (cI : ClassId) (h0 a0 a1 a2 a3 sz : Nat) (g4 g5 g6 g7 g8 g9 g10 g11 g12 g13 g14 g15 g16 g17 : Int32) (r0 r1 r2 r3 : Nat → Int32)   : Met l yX0_areConsistent wsX0_areConsistent rmX_areConsistent (va_Pc [.ref h0] (bw_pr D vwC2 [(cI, .int)] (wdX cI h0 a0 a1 a2 a3 g4 g5 g6 g7 g8 g9 g10 g11 g12 g13 g14 g15 g16 g17 r0 r1 r2 r3) sz (tbX (va_A (wdX cI h0 a0 a1 a2 a3 g4 g5 g6 g7 g8 g9 g10 g11 g12 g13 g14 g15 g16 g17 r0 r1 r2 r3) sz)))) (va_Qi (fun r u => r = sX_areConsistent g4 g5 g6 g7 g8 g9 g10 g11 g12 g13 g14 g15 g16 g17 r0 r1 r2 r3 ∧ u = (g4, g5, g6, g7, g8, g9, g10, g11, g12, g13, g14, g15, g16, g17, r0, r1, r2, r3)) (bw_at D vwC2 [(cI, .int)] (wfX cI h0 a0 a1 a2 a3) (va_A (wdX cI h0 a0 a1 a2 a3 g4 g5 g6 g7 g8 g9 g10 g11 g12 g13 g14 g15 g16 g17 r0 r1 r2 r3) sz)) (va_A (wdX cI h0 a0 a1 a2 a3 g4 g5 g6 g7 g8 g9 g10 g11 g12 g13 g14 g15 g16 g17 r0 r1 r2 r3) sz)) 0 0 (va_A (wdX cI h0 a0 a1 a2 a3 g4 g5 g6 g7 g8 g9 g10 g11 g12 g13 g14 g15 g16 g17 r0 r1 r2 r3) sz) := by
  refine Met.ofW (cc := cX0_areConsistent) (maxL := 1) (ret := (some .boolean)) (by decide) rfl ?_
  intro p e s m args below meth c s₁ B hml hv
  obtain ⟨rfl, hsz, hP, hK, hD0, hT⟩ := hv
  have hx := B.exec
  have hb := B.bytes
  have hr := B.returns
  have hts := atoms_spec (ws := wsX0_areConsistent) B.pre
  have hown : s.vm.findClass RX0 = some m.cls := findClass_of_methodNamed B.named
  have hlocks := B.notSynchronized
  subst hsz
  have hD := hD0.self (sz := s.heap.size)
  generalize hAe : va_A (wdX cI h0 a0 a1 a2 a3 g4 g5 g6 g7 g8 g9 g10 g11 g12 g13 g14 g15 g16 g17 r0 r1 r2 r3) s.heap.size = A at hD hT ⊢
  have hA : ∀ q : Nat, s.heap.size ≤ q → A q := fun q h => by rw [← hAe]; exact Or.inr h
  have hS : va_S A s.heap s.heap [] := va_S.rf
  have hl := lv_entry ([.ref h0]) (n := 1) (Nat.le_of_ble_eq_true rfl)
  rw [lg_entry_eq]
  generalize (lg_sl ([.ref h0]) ++ List.replicate (1 - (lg_sl ([.ref h0])).length) Slot.unset).toArray = ls at hl ⊢
  have hl : lv_has ls 1 [(0, .ref h0)] := hl
  generalize hX : sX_areConsistent g4 g5 g6 g7 g8 g9 g10 g11 g12 g13 g14 g15 g16 g17 r0 r1 r2 r3 = X
  refine bw_Q (fun Q hQ => ?_)
  have hinU : ∀ w ∈ wsX00, w ∈ wsX0_areConsistent := fun w h => List.mem_cons_of_mem _ (List.mem_append_right _ h)
  have J69 : ∀  (H : Heap) (locs : List Loc) (ls : Array Slot), lv_has ls 1 [(0, .ref h0)] → va_P D vwC2 (wdX cI h0 a0 a1 a2 a3 g4 g5 g6 g7 g8 g9 g10 g11 g12 g13 g14 g15 g16 g17 r0 r1 r2 r3) H → va_D A (wdX cI h0 a0 a1 a2 a3 g4 g5 g6 g7 g8 g9 g10 g11 g12 g13 g14 g15 g16 g17 r0 r1 r2 r3) → va_S A s.heap H locs → bX_areConsistent_69 g4 g5 g6 g7 g8 g9 g10 g11 g12 g13 g14 g15 g16 g17 r0 r1 r2 r3 = X → W p l e (headSpec wsX0_areConsistent rmX_areConsistent).room s m ([.ref h0] : List Value).toArray below meth c H locs 0 0 Q (F0 m 69 ls []) := by
    intro  H locs ls hl hP hD hS hX
    unfold bX_areConsistent_69 at hX
    refine lv_iconst (v := 0) hx hb dX0_areConsistent_69 (by decide +kernel) ?_
    subst hQ
    exact W.zret (ty := .boolean) (v := 0) hx hb hr (by decide +kernel) (fun t ht hW => ⟨⟨0, (g4, g5, g6, g7, g8, g9, g10, g11, g12, g13, g14, g15, g16, g17, r0, r1, r2, r3), rfl, ⟨hX, rfl⟩, by rw [ht]; exact hP, va_K.moved hW.alike hK, hD⟩, hS.F ht⟩) hS.2.2 dX0_areConsistent_70
  unfold sX_areConsistent at hX
  unfold bX_areConsistent_0 at hX
  refine lv_aload_n hx hb dX0_areConsistent_0 rfl (lv_at hl 0 rfl) ?_
  refine va_get (D := D) (ci := 0) (v := .ref a0) (C := RX0) (T := TX0) (N := 18) hx hb hts hinU hown hK hP 0 rfl rfl 0 (by decide) (hts (.fieldLink RX0 18 "BloodCircuitChannels" "parameters" "[I") (by decide +kernel)) (fun _ h9 => h9) rfl dX0_areConsistent_1 ?_
  refine lv_bipush (v := 6) hx hb dX0_areConsistent_4 (by decide +kernel) ?_
  refine bw_ld hx hb hK hP 1 0 rfl rfl 6 (by decide +kernel) (bw_in (by decide +kernel)) dX0_areConsistent_6 ?_
  refine lv_bipush (v := 20) hx hb dX0_areConsistent_7 (by decide +kernel) ?_
  refine lv_iadd hx hb dX0_areConsistent_9 ?_
  refine lv_aload_n hx hb dX0_areConsistent_10 rfl (lv_at hl 0 rfl) ?_
  refine va_get (D := D) (ci := 0) (v := .ref a0) (C := RX0) (T := TX0) (N := 18) hx hb hts hinU hown hK hP 0 rfl rfl 0 (by decide) (hts (.fieldLink RX0 18 "BloodCircuitChannels" "parameters" "[I") (by decide +kernel)) (fun _ h9 => h9) rfl dX0_areConsistent_11 ?_
  refine lv_bipush (v := 7) hx hb dX0_areConsistent_14 (by decide +kernel) ?_
  refine bw_ld hx hb hK hP 1 0 rfl rfl 7 (by decide +kernel) (bw_in (by decide +kernel)) dX0_areConsistent_16 ?_
  refine lv_icmp_gt (tgt := 69) hx hb dX0_areConsistent_17 (by decide) (fun hc17 => ?_) (fun hc17 => ?_)
  · rw [if_pos hc17] at hX
    exact J69  _ _ ls (lv_sub hl [0] rfl) hP hD hS hX
  · rw [if_neg hc17] at hX
    unfold bX_areConsistent_20 at hX
    refine lv_aload_n hx hb dX0_areConsistent_20 rfl (lv_at hl 0 rfl) ?_
    refine va_get (D := D) (ci := 0) (v := .ref a0) (C := RX0) (T := TX0) (N := 18) hx hb hts hinU hown hK hP 0 rfl rfl 0 (by decide) (hts (.fieldLink RX0 18 "BloodCircuitChannels" "parameters" "[I") (by decide +kernel)) (fun _ h9 => h9) rfl dX0_areConsistent_21 ?_
    refine lv_bipush (v := 8) hx hb dX0_areConsistent_24 (by decide +kernel) ?_
    refine bw_ld hx hb hK hP 1 0 rfl rfl 8 (by decide +kernel) (bw_in (by decide +kernel)) dX0_areConsistent_26 ?_
    refine lv_bipush (v := 20) hx hb dX0_areConsistent_27 (by decide +kernel) ?_
    refine lv_iadd hx hb dX0_areConsistent_29 ?_
    refine lv_aload_n hx hb dX0_areConsistent_30 rfl (lv_at hl 0 rfl) ?_
    refine va_get (D := D) (ci := 0) (v := .ref a0) (C := RX0) (T := TX0) (N := 18) hx hb hts hinU hown hK hP 0 rfl rfl 0 (by decide) (hts (.fieldLink RX0 18 "BloodCircuitChannels" "parameters" "[I") (by decide +kernel)) (fun _ h9 => h9) rfl dX0_areConsistent_31 ?_
    refine lv_bipush (v := 9) hx hb dX0_areConsistent_34 (by decide +kernel) ?_
    refine bw_ld hx hb hK hP 1 0 rfl rfl 9 (by decide +kernel) (bw_in (by decide +kernel)) dX0_areConsistent_36 ?_
    refine lv_icmp_gt (tgt := 69) hx hb dX0_areConsistent_37 (by decide) (fun hc37 => ?_) (fun hc37 => ?_)
    · rw [if_pos hc37] at hX
      exact J69  _ _ ls (lv_sub hl [0] rfl) hP hD hS hX
    · rw [if_neg hc37] at hX
      unfold bX_areConsistent_40 at hX
      refine lv_bipush (v := 60) hx hb dX0_areConsistent_40 (by decide +kernel) ?_
      refine lv_aload_n hx hb dX0_areConsistent_42 rfl (lv_at hl 0 rfl) ?_
      refine va_get (D := D) (ci := 0) (v := .ref a0) (C := RX0) (T := TX0) (N := 18) hx hb hts hinU hown hK hP 0 rfl rfl 0 (by decide) (hts (.fieldLink RX0 18 "BloodCircuitChannels" "parameters" "[I") (by decide +kernel)) (fun _ h9 => h9) rfl dX0_areConsistent_43 ?_
      refine lv_iconst (v := 1) hx hb dX0_areConsistent_46 (by decide +kernel) ?_
      refine bw_ld hx hb hK hP 1 0 rfl rfl 1 (by decide +kernel) (bw_in (by decide +kernel)) dX0_areConsistent_47 ?_
      refine lv_imul hx hb dX0_areConsistent_48 ?_
      refine lv_aload_n hx hb dX0_areConsistent_49 rfl (lv_at hl 0 rfl) ?_
      refine va_get (D := D) (ci := 0) (v := .ref a0) (C := RX0) (T := TX0) (N := 18) hx hb hts hinU hown hK hP 0 rfl rfl 0 (by decide) (hts (.fieldLink RX0 18 "BloodCircuitChannels" "parameters" "[I") (by decide +kernel)) (fun _ h9 => h9) rfl dX0_areConsistent_50 ?_
      refine lv_iconst (v := 2) hx hb dX0_areConsistent_53 (by decide +kernel) ?_
      refine bw_ld hx hb hK hP 1 0 rfl rfl 2 (by decide +kernel) (bw_in (by decide +kernel)) dX0_areConsistent_54 ?_
      refine lv_aload_n hx hb dX0_areConsistent_55 rfl (lv_at hl 0 rfl) ?_
      refine va_get (D := D) (ci := 0) (v := .ref a0) (C := RX0) (T := TX0) (N := 18) hx hb hts hinU hown hK hP 0 rfl rfl 0 (by decide) (hts (.fieldLink RX0 18 "BloodCircuitChannels" "parameters" "[I") (by decide +kernel)) (fun _ h9 => h9) rfl dX0_areConsistent_56 ?_
      refine lv_iconst (v := 3) hx hb dX0_areConsistent_59 (by decide +kernel) ?_
      refine bw_ld hx hb hK hP 1 0 rfl rfl 3 (by decide +kernel) (bw_in (by decide +kernel)) dX0_areConsistent_60 ?_
      refine lv_imul hx hb dX0_areConsistent_61 ?_
      refine lv_icmp_gt (tgt := 69) hx hb dX0_areConsistent_62 (by decide) (fun hc62 => ?_) (fun hc62 => ?_)
      · rw [if_pos hc62] at hX
        exact J69  _ _ ls (lv_sub hl [0] rfl) hP hD hS hX
      · rw [if_neg hc62] at hX
        unfold bX_areConsistent_65 at hX
        refine lv_iconst (v := 1) hx hb dX0_areConsistent_65 (by decide +kernel) ?_
        refine lv_goto (tgt := 70) hx hb dX0_areConsistent_66 (by decide) ?_
        subst hQ
        exact W.zret (ty := .boolean) (v := 1) hx hb hr (by decide +kernel) (fun t ht hW => ⟨⟨1, (g4, g5, g6, g7, g8, g9, g10, g11, g12, g13, g14, g15, g16, g17, r0, r1, r2, r3), rfl, ⟨hX, rfl⟩, by rw [ht]; exact hP, va_K.moved hW.alike hK, hD⟩, hS.F ht⟩) hS.2.2 dX0_areConsistent_70
abbrev rmX_mayLeavePhase : Room := { frames := 1, cells := 0, slots := 0, locals := 20 }
set_option maxHeartbeats 4000000 in
set_option maxRecDepth 100000 in
theorem ctX_mayLeavePhase (l : Launch) (D : va_G) (cI : ClassId) (h0 a0 a1 a2 a3 sz : Nat) (g4 g5 g6 g7 g8 g9 g10 g11 g12 g13 g14 g15 g16 g17 : Int32) (r0 r1 r2 r3 : Nat → Int32)   : Met l yX0_mayLeavePhase wsX0_mayLeavePhase rmX_mayLeavePhase (va_Pc [.ref h0] (bw_pr D vwC2 [(cI, .int)] (wdX cI h0 a0 a1 a2 a3 g4 g5 g6 g7 g8 g9 g10 g11 g12 g13 g14 g15 g16 g17 r0 r1 r2 r3) sz (tbX (va_A (wdX cI h0 a0 a1 a2 a3 g4 g5 g6 g7 g8 g9 g10 g11 g12 g13 g14 g15 g16 g17 r0 r1 r2 r3) sz)))) (va_Qi (fun r u => r = sX_mayLeavePhase g4 g5 g6 g7 g8 g9 g10 g11 g12 g13 g14 g15 g16 g17 r0 r1 r2 r3 ∧ u = (g4, g5, g6, g7, g8, g9, g10, g11, g12, g13, g14, g15, g16, g17, r0, r1, r2, r3)) (bw_at D vwC2 [(cI, .int)] (wfX cI h0 a0 a1 a2 a3) (va_A (wdX cI h0 a0 a1 a2 a3 g4 g5 g6 g7 g8 g9 g10 g11 g12 g13 g14 g15 g16 g17 r0 r1 r2 r3) sz)) (va_A (wdX cI h0 a0 a1 a2 a3 g4 g5 g6 g7 g8 g9 g10 g11 g12 g13 g14 g15 g16 g17 r0 r1 r2 r3) sz)) 0 0 (va_A (wdX cI h0 a0 a1 a2 a3 g4 g5 g6 g7 g8 g9 g10 g11 g12 g13 g14 g15 g16 g17 r0 r1 r2 r3) sz) := by
  refine Met.ofW (cc := cX0_mayLeavePhase) (maxL := 1) (ret := (some .boolean)) (by decide) rfl ?_
  intro p e s m args below meth c s₁ B hml hv
  obtain ⟨rfl, hsz, hP, hK, hD0, hT⟩ := hv
  have hx := B.exec
  have hb := B.bytes
  have hr := B.returns
  have hts := atoms_spec (ws := wsX0_mayLeavePhase) B.pre
  have hown : s.vm.findClass RX0 = some m.cls := findClass_of_methodNamed B.named
  have hlocks := B.notSynchronized
  subst hsz
  have hD := hD0.self (sz := s.heap.size)
  generalize hAe : va_A (wdX cI h0 a0 a1 a2 a3 g4 g5 g6 g7 g8 g9 g10 g11 g12 g13 g14 g15 g16 g17 r0 r1 r2 r3) s.heap.size = A at hD hT ⊢
  have hA : ∀ q : Nat, s.heap.size ≤ q → A q := fun q h => by rw [← hAe]; exact Or.inr h
  have hS : va_S A s.heap s.heap [] := va_S.rf
  have hl := lv_entry ([.ref h0]) (n := 1) (Nat.le_of_ble_eq_true rfl)
  rw [lg_entry_eq]
  generalize (lg_sl ([.ref h0]) ++ List.replicate (1 - (lg_sl ([.ref h0])).length) Slot.unset).toArray = ls at hl ⊢
  have hl : lv_has ls 1 [(0, .ref h0)] := hl
  generalize hX : sX_mayLeavePhase g4 g5 g6 g7 g8 g9 g10 g11 g12 g13 g14 g15 g16 g17 r0 r1 r2 r3 = X
  refine bw_Q (fun Q hQ => ?_)
  have hinU : ∀ w ∈ wsX00, w ∈ wsX0_mayLeavePhase := fun w h => List.mem_cons_of_mem _ (List.mem_append_right _ h)
  have J71 : ∀  (H : Heap) (locs : List Loc) (ls : Array Slot), lv_has ls 1 [(0, .ref h0)] → va_P D vwC2 (wdX cI h0 a0 a1 a2 a3 g4 g5 g6 g7 g8 g9 g10 g11 g12 g13 g14 g15 g16 g17 r0 r1 r2 r3) H → va_D A (wdX cI h0 a0 a1 a2 a3 g4 g5 g6 g7 g8 g9 g10 g11 g12 g13 g14 g15 g16 g17 r0 r1 r2 r3) → va_S A s.heap H locs → bX_mayLeavePhase_71 g4 g5 g6 g7 g8 g9 g10 g11 g12 g13 g14 g15 g16 g17 r0 r1 r2 r3 = X → W p l e (headSpec wsX0_mayLeavePhase rmX_mayLeavePhase).room s m ([.ref h0] : List Value).toArray below meth c H locs 0 0 Q (F0 m 71 ls []) := by
    intro  H locs ls hl hP hD hS hX
    unfold bX_mayLeavePhase_71 at hX
    refine lv_iconst (v := 0) hx hb dX0_mayLeavePhase_71 (by decide +kernel) ?_
    subst hQ
    exact W.zret (ty := .boolean) (v := 0) hx hb hr (by decide +kernel) (fun t ht hW => ⟨⟨0, (g4, g5, g6, g7, g8, g9, g10, g11, g12, g13, g14, g15, g16, g17, r0, r1, r2, r3), rfl, ⟨hX, rfl⟩, by rw [ht]; exact hP, va_K.moved hW.alike hK, hD⟩, hS.F ht⟩) hS.2.2 dX0_mayLeavePhase_72
  unfold sX_mayLeavePhase at hX
  unfold bX_mayLeavePhase_0 at hX
  refine lv_aload_n hx hb dX0_mayLeavePhase_0 rfl (lv_at hl 0 rfl) ?_
  refine va_get (D := D) (ci := 0) (v := .int g4) (C := RX0) (T := TX0) (N := 18) hx hb hts hinU hown hK hP 0 rfl rfl 4 (by decide) (hts (.fieldLink RX0 33 "BloodCircuitChannels" "phase" "I") (by decide +kernel)) (fun _ h9 => h9) rfl dX0_mayLeavePhase_1 ?_
  by_cases hs0 : g4 = 0
  · rw [if_pos hs0] at hX
    refine lv_tableIn (off := 40) (tgt := 44) hx hb dX0_mayLeavePhase_4 (by rw [hs0]; decide) (by rw [hs0]; decide) (by rw [hs0]; decide +kernel) (by decide) ?_
    unfold bX_mayLeavePhase_44 at hX
    refine lv_aload_n hx hb dX0_mayLeavePhase_44 rfl (lv_at hl 0 rfl) ?_
    refine bw_Vi (wr := []) (As := []) (rest := []) ⟨hx, hb, hml, hown, hts⟩ (ctX_areConsistent l D cI h0 a0 a1 a2 a3 _ g4 g5 g6 g7 g8 g9 g10 g11 g12 g13 g14 g15 g16 g17 r0 r1 r2 r3) (cwV 0 hts gX0_mayLeavePhase_X0_areConsistent rfl rfl rfl (by decide +kernel) ⟨Nat.le_of_ble_eq_true rfl, Nat.le_of_ble_eq_true rfl⟩) hK hP hD hS hA (tbX_bl) (tbX_to hT hS (bw_free (wr := []) hD hS hA)) 0 rfl rfl rfl hl.1 rfl (Nat.le_of_ble_eq_true rfl) dX0_mayLeavePhase_45 ⟨Nat.le_of_ble_eq_true rfl, Nat.le_of_ble_eq_true rfl⟩ (fun q1 u H locs hu hP hD hS => ?_)
    obtain ⟨hr1, rfl⟩ := hu
    subst hr1
    have hP : va_P D vwC2 (wdX cI h0 a0 a1 a2 a3 g4 g5 g6 g7 g8 g9 g10 g11 g12 g13 g14 g15 g16 g17 r0 r1 r2 r3) H := hP
    have hD : va_D A (wdX cI h0 a0 a1 a2 a3 g4 g5 g6 g7 g8 g9 g10 g11 g12 g13 g14 g15 g16 g17 r0 r1 r2 r3) := hD
    refine lv_if_eq (tgt := 71) hx hb dX0_mayLeavePhase_48 (by decide) (fun hc48 => ?_) (fun hc48 => ?_)
    · rw [if_pos hc48] at hX
      exact J71  _ _ ls (lv_sub hl [0] rfl) hP hD hS hX
    · rw [if_neg hc48] at hX
      unfold bX_mayLeavePhase_51 at hX
      refine lv_aload_n hx hb dX0_mayLeavePhase_51 rfl (lv_at hl 0 rfl) ?_
      refine va_get (D := D) (ci := 0) (v := .int g14) (C := RX0) (T := TX0) (N := 18) hx hb hts hinU hown hK hP 0 rfl rfl 14 (by decide) (hts (.fieldLink RX0 92 "BloodCircuitChannels" "steadyTicks" "I") (by decide +kernel)) (fun _ h9 => h9) rfl dX0_mayLeavePhase_52 ?_
      refine lv_bipush (v := 20) hx hb dX0_mayLeavePhase_55 (by decide +kernel) ?_
      refine lv_icmp_lt (tgt := 71) hx hb dX0_mayLeavePhase_57 (by decide) (fun hc57 => ?_) (fun hc57 => ?_)
      · rw [if_pos hc57] at hX
        exact J71  _ _ ls (lv_sub hl [0] rfl) hP hD hS hX
      · rw [if_neg hc57] at hX
        unfold bX_mayLeavePhase_60 at hX
        refine lv_aload_n hx hb dX0_mayLeavePhase_60 rfl (lv_at hl 0 rfl) ?_
        refine va_get (D := D) (ci := 0) (v := .int g5) (C := RX0) (T := TX0) (N := 18) hx hb hts hinU hown hK hP 0 rfl rfl 5 (by decide) (hts (.fieldLink RX0 65 "BloodCircuitChannels" "alarms" "I") (by decide +kernel)) (fun _ h9 => h9) rfl dX0_mayLeavePhase_61 ?_
        refine lv_if_ne (tgt := 71) hx hb dX0_mayLeavePhase_64 (by decide) (fun hc64 => ?_) (fun hc64 => ?_)
        · rw [if_neg hc64] at hX
          exact J71  _ _ ls (lv_sub hl [0] rfl) hP hD hS hX
        · rw [if_pos hc64] at hX
          unfold bX_mayLeavePhase_67 at hX
          refine lv_iconst (v := 1) hx hb dX0_mayLeavePhase_67 (by decide +kernel) ?_
          refine lv_goto (tgt := 72) hx hb dX0_mayLeavePhase_68 (by decide) ?_
          subst hQ
          exact W.zret (ty := .boolean) (v := 1) hx hb hr (by decide +kernel) (fun t ht hW => ⟨⟨1, (g4, g5, g6, g7, g8, g9, g10, g11, g12, g13, g14, g15, g16, g17, r0, r1, r2, r3), rfl, ⟨hX, rfl⟩, by rw [ht]; exact hP, va_K.moved hW.alike hK, hD⟩, hS.F ht⟩) hS.2.2 dX0_mayLeavePhase_72
  rw [if_neg hs0] at hX
  by_cases hs1 : g4 = 1
  · rw [if_pos hs1] at hX
    refine lv_tableIn (off := 69) (tgt := 73) hx hb dX0_mayLeavePhase_4 (by rw [hs1]; decide) (by rw [hs1]; decide) (by rw [hs1]; decide +kernel) (by decide) ?_
    unfold bX_mayLeavePhase_73 at hX
    refine lv_aload_n hx hb dX0_mayLeavePhase_73 rfl (lv_at hl 0 rfl) ?_
    refine va_get (D := D) (ci := 0) (v := .int g13) (C := RX0) (T := TX0) (N := 18) hx hb hts hinU hown hK hP 0 rfl rfl 13 (by decide) (hts (.fieldLink RX0 89 "BloodCircuitChannels" "counted" "I") (by decide +kernel)) (fun _ h9 => h9) rfl dX0_mayLeavePhase_74 ?_
    refine lv_bipush (v := 100) hx hb dX0_mayLeavePhase_77 (by decide +kernel) ?_
    refine lv_icmp_lt (tgt := 86) hx hb dX0_mayLeavePhase_79 (by decide) (fun hc79 => ?_) (fun hc79 => ?_)
    · rw [if_pos hc79] at hX
      unfold bX_mayLeavePhase_86 at hX
      refine lv_iconst (v := 0) hx hb dX0_mayLeavePhase_86 (by decide +kernel) ?_
      subst hQ
      exact W.zret (ty := .boolean) (v := 0) hx hb hr (by decide +kernel) (fun t ht hW => ⟨⟨0, (g4, g5, g6, g7, g8, g9, g10, g11, g12, g13, g14, g15, g16, g17, r0, r1, r2, r3), rfl, ⟨hX, rfl⟩, by rw [ht]; exact hP, va_K.moved hW.alike hK, hD⟩, hS.F ht⟩) hS.2.2 dX0_mayLeavePhase_87
    · rw [if_neg hc79] at hX
      unfold bX_mayLeavePhase_82 at hX
      refine lv_iconst (v := 1) hx hb dX0_mayLeavePhase_82 (by decide +kernel) ?_
      refine lv_goto (tgt := 87) hx hb dX0_mayLeavePhase_83 (by decide) ?_
      subst hQ
      exact W.zret (ty := .boolean) (v := 1) hx hb hr (by decide +kernel) (fun t ht hW => ⟨⟨1, (g4, g5, g6, g7, g8, g9, g10, g11, g12, g13, g14, g15, g16, g17, r0, r1, r2, r3), rfl, ⟨hX, rfl⟩, by rw [ht]; exact hP, va_K.moved hW.alike hK, hD⟩, hS.F ht⟩) hS.2.2 dX0_mayLeavePhase_87
  rw [if_neg hs1] at hX
  by_cases hs2 : g4 = 2
  · rw [if_pos hs2] at hX
    refine lv_tableIn (off := 84) (tgt := 88) hx hb dX0_mayLeavePhase_4 (by rw [hs2]; decide) (by rw [hs2]; decide) (by rw [hs2]; decide +kernel) (by decide) ?_
    unfold bX_mayLeavePhase_88 at hX
    refine lv_aload_n hx hb dX0_mayLeavePhase_88 rfl (lv_at hl 0 rfl) ?_
    refine va_get (D := D) (ci := 0) (v := .int g5) (C := RX0) (T := TX0) (N := 18) hx hb hts hinU hown hK hP 0 rfl rfl 5 (by decide) (hts (.fieldLink RX0 65 "BloodCircuitChannels" "alarms" "I") (by decide +kernel)) (fun _ h9 => h9) rfl dX0_mayLeavePhase_89 ?_
    refine lv_if_ne (tgt := 99) hx hb dX0_mayLeavePhase_92 (by decide) (fun hc92 => ?_) (fun hc92 => ?_)
    · rw [if_neg hc92] at hX
      unfold bX_mayLeavePhase_99 at hX
      refine lv_iconst (v := 0) hx hb dX0_mayLeavePhase_99 (by decide +kernel) ?_
      subst hQ
      exact W.zret (ty := .boolean) (v := 0) hx hb hr (by decide +kernel) (fun t ht hW => ⟨⟨0, (g4, g5, g6, g7, g8, g9, g10, g11, g12, g13, g14, g15, g16, g17, r0, r1, r2, r3), rfl, ⟨hX, rfl⟩, by rw [ht]; exact hP, va_K.moved hW.alike hK, hD⟩, hS.F ht⟩) hS.2.2 dX0_mayLeavePhase_100
    · rw [if_pos hc92] at hX
      unfold bX_mayLeavePhase_95 at hX
      refine lv_iconst (v := 1) hx hb dX0_mayLeavePhase_95 (by decide +kernel) ?_
      refine lv_goto (tgt := 100) hx hb dX0_mayLeavePhase_96 (by decide) ?_
      subst hQ
      exact W.zret (ty := .boolean) (v := 1) hx hb hr (by decide +kernel) (fun t ht hW => ⟨⟨1, (g4, g5, g6, g7, g8, g9, g10, g11, g12, g13, g14, g15, g16, g17, r0, r1, r2, r3), rfl, ⟨hX, rfl⟩, by rw [ht]; exact hP, va_K.moved hW.alike hK, hD⟩, hS.F ht⟩) hS.2.2 dX0_mayLeavePhase_100
  rw [if_neg hs2] at hX
  by_cases hs3 : g4 = 3
  · rw [if_pos hs3] at hX
    refine lv_tableIn (off := 127) (tgt := 131) hx hb dX0_mayLeavePhase_4 (by rw [hs3]; decide) (by rw [hs3]; decide) (by rw [hs3]; decide +kernel) (by decide) ?_
    unfold bX_mayLeavePhase_131 at hX
    refine lv_iconst (v := 1) hx hb dX0_mayLeavePhase_131 (by decide +kernel) ?_
    subst hQ
    exact W.zret (ty := .boolean) (v := 1) hx hb hr (by decide +kernel) (fun t ht hW => ⟨⟨1, (g4, g5, g6, g7, g8, g9, g10, g11, g12, g13, g14, g15, g16, g17, r0, r1, r2, r3), rfl, ⟨hX, rfl⟩, by rw [ht]; exact hP, va_K.moved hW.alike hK, hD⟩, hS.F ht⟩) hS.2.2 dX0_mayLeavePhase_132
  rw [if_neg hs3] at hX
  by_cases hs4 : g4 = 4
  · rw [if_pos hs4] at hX
    refine lv_tableIn (off := 97) (tgt := 101) hx hb dX0_mayLeavePhase_4 (by rw [hs4]; decide) (by rw [hs4]; decide) (by rw [hs4]; decide +kernel) (by decide) ?_
    unfold bX_mayLeavePhase_101 at hX
    refine lv_aload_n hx hb dX0_mayLeavePhase_101 rfl (lv_at hl 0 rfl) ?_
    refine va_get (D := D) (ci := 0) (v := .int g13) (C := RX0) (T := TX0) (N := 18) hx hb hts hinU hown hK hP 0 rfl rfl 13 (by decide) (hts (.fieldLink RX0 89 "BloodCircuitChannels" "counted" "I") (by decide +kernel)) (fun _ h9 => h9) rfl dX0_mayLeavePhase_102 ?_
    refine lv_bipush (v := 50) hx hb dX0_mayLeavePhase_105 (by decide +kernel) ?_
    refine lv_icmp_lt (tgt := 114) hx hb dX0_mayLeavePhase_107 (by decide) (fun hc107 => ?_) (fun hc107 => ?_)
    · rw [if_pos hc107] at hX
      unfold bX_mayLeavePhase_114 at hX
      refine lv_iconst (v := 0) hx hb dX0_mayLeavePhase_114 (by decide +kernel) ?_
      subst hQ
      exact W.zret (ty := .boolean) (v := 0) hx hb hr (by decide +kernel) (fun t ht hW => ⟨⟨0, (g4, g5, g6, g7, g8, g9, g10, g11, g12, g13, g14, g15, g16, g17, r0, r1, r2, r3), rfl, ⟨hX, rfl⟩, by rw [ht]; exact hP, va_K.moved hW.alike hK, hD⟩, hS.F ht⟩) hS.2.2 dX0_mayLeavePhase_115
    · rw [if_neg hc107] at hX
      unfold bX_mayLeavePhase_110 at hX
      refine lv_iconst (v := 1) hx hb dX0_mayLeavePhase_110 (by decide +kernel) ?_
      refine lv_goto (tgt := 115) hx hb dX0_mayLeavePhase_111 (by decide) ?_
      subst hQ
      exact W.zret (ty := .boolean) (v := 1) hx hb hr (by decide +kernel) (fun t ht hW => ⟨⟨1, (g4, g5, g6, g7, g8, g9, g10, g11, g12, g13, g14, g15, g16, g17, r0, r1, r2, r3), rfl, ⟨hX, rfl⟩, by rw [ht]; exact hP, va_K.moved hW.alike hK, hD⟩, hS.F ht⟩) hS.2.2 dX0_mayLeavePhase_115
  rw [if_neg hs4] at hX
  by_cases hs5 : g4 = 5
  · rw [if_pos hs5] at hX
    refine lv_tableIn (off := 112) (tgt := 116) hx hb dX0_mayLeavePhase_4 (by rw [hs5]; decide) (by rw [hs5]; decide) (by rw [hs5]; decide +kernel) (by decide) ?_
    unfold bX_mayLeavePhase_116 at hX
    refine lv_aload_n hx hb dX0_mayLeavePhase_116 rfl (lv_at hl 0 rfl) ?_
    refine va_get (D := D) (ci := 0) (v := .int g13) (C := RX0) (T := TX0) (N := 18) hx hb hts hinU hown hK hP 0 rfl rfl 13 (by decide) (hts (.fieldLink RX0 89 "BloodCircuitChannels" "counted" "I") (by decide +kernel)) (fun _ h9 => h9) rfl dX0_mayLeavePhase_117 ?_
    refine lv_bipush (v := 30) hx hb dX0_mayLeavePhase_120 (by decide +kernel) ?_
    refine lv_icmp_lt (tgt := 129) hx hb dX0_mayLeavePhase_122 (by decide) (fun hc122 => ?_) (fun hc122 => ?_)
    · rw [if_pos hc122] at hX
      unfold bX_mayLeavePhase_129 at hX
      refine lv_iconst (v := 0) hx hb dX0_mayLeavePhase_129 (by decide +kernel) ?_
      subst hQ
      exact W.zret (ty := .boolean) (v := 0) hx hb hr (by decide +kernel) (fun t ht hW => ⟨⟨0, (g4, g5, g6, g7, g8, g9, g10, g11, g12, g13, g14, g15, g16, g17, r0, r1, r2, r3), rfl, ⟨hX, rfl⟩, by rw [ht]; exact hP, va_K.moved hW.alike hK, hD⟩, hS.F ht⟩) hS.2.2 dX0_mayLeavePhase_130
    · rw [if_neg hc122] at hX
      unfold bX_mayLeavePhase_125 at hX
      refine lv_iconst (v := 1) hx hb dX0_mayLeavePhase_125 (by decide +kernel) ?_
      refine lv_goto (tgt := 130) hx hb dX0_mayLeavePhase_126 (by decide) ?_
      subst hQ
      exact W.zret (ty := .boolean) (v := 1) hx hb hr (by decide +kernel) (fun t ht hW => ⟨⟨1, (g4, g5, g6, g7, g8, g9, g10, g11, g12, g13, g14, g15, g16, g17, r0, r1, r2, r3), rfl, ⟨hX, rfl⟩, by rw [ht]; exact hP, va_K.moved hW.alike hK, hD⟩, hS.F ht⟩) hS.2.2 dX0_mayLeavePhase_130
  rw [if_neg hs5] at hX
  refine lv_tableOut (tgt := 131) hx hb dX0_mayLeavePhase_4 (sw_out5 hs0 hs1 hs2 hs3 hs4 hs5) (by decide) ?_
  unfold bX_mayLeavePhase_131 at hX
  refine lv_iconst (v := 1) hx hb dX0_mayLeavePhase_131 (by decide +kernel) ?_
  subst hQ
  exact W.zret (ty := .boolean) (v := 1) hx hb hr (by decide +kernel) (fun t ht hW => ⟨⟨1, (g4, g5, g6, g7, g8, g9, g10, g11, g12, g13, g14, g15, g16, g17, r0, r1, r2, r3), rfl, ⟨hX, rfl⟩, by rw [ht]; exact hP, va_K.moved hW.alike hK, hD⟩, hS.F ht⟩) hS.2.2 dX0_mayLeavePhase_132
abbrev rmX_beginPhase : Room := { frames := 0, cells := 0, slots := 0, locals := 0 }
set_option maxHeartbeats 4000000 in
set_option maxRecDepth 100000 in
theorem ctX_beginPhase (l : Launch) (D : va_G) (cI : ClassId) (h0 a0 a1 a2 a3 sz : Nat) (g4 g5 g6 g7 g8 g9 g10 g11 g12 g13 g14 g15 g16 g17 : Int32) (r0 r1 r2 r3 : Nat → Int32) (k1 : Int32)  : Met l yX0_beginPhase wsX0_beginPhase rmX_beginPhase (va_Pc [.ref h0, .int k1] (bw_pr D vwC2 [(cI, .int)] (wdX cI h0 a0 a1 a2 a3 g4 g5 g6 g7 g8 g9 g10 g11 g12 g13 g14 g15 g16 g17 r0 r1 r2 r3) sz (tbX (va_A (wdX cI h0 a0 a1 a2 a3 g4 g5 g6 g7 g8 g9 g10 g11 g12 g13 g14 g15 g16 g17 r0 r1 r2 r3) sz)))) (va_Qv (fun u => u = sX_beginPhase g4 g5 g6 g7 g8 g9 g10 g11 g12 g13 g14 g15 g16 g17 r0 r1 r2 r3 k1) (bw_at D vwC2 [(cI, .int)] (wfX cI h0 a0 a1 a2 a3) (va_A (wdX cI h0 a0 a1 a2 a3 g4 g5 g6 g7 g8 g9 g10 g11 g12 g13 g14 g15 g16 g17 r0 r1 r2 r3) sz)) (va_A (wdX cI h0 a0 a1 a2 a3 g4 g5 g6 g7 g8 g9 g10 g11 g12 g13 g14 g15 g16 g17 r0 r1 r2 r3) sz)) 0 0 (va_A (wdX cI h0 a0 a1 a2 a3 g4 g5 g6 g7 g8 g9 g10 g11 g12 g13 g14 g15 g16 g17 r0 r1 r2 r3) sz) := by
  refine Met.ofW (cc := cX0_beginPhase) (maxL := 2) (ret := none) (by decide) rfl ?_
  intro p e s m args below meth c s₁ B hml hv
  obtain ⟨rfl, hsz, hP, hK, hD0, hT⟩ := hv
  have hx := B.exec
  have hb := B.bytes
  have hr := B.returns
  have hts := atoms_spec (ws := wsX0_beginPhase) B.pre
  have hown : s.vm.findClass RX0 = some m.cls := findClass_of_methodNamed B.named
  have hlocks := B.notSynchronized
  subst hsz
  have hD := hD0.self (sz := s.heap.size)
  generalize hAe : va_A (wdX cI h0 a0 a1 a2 a3 g4 g5 g6 g7 g8 g9 g10 g11 g12 g13 g14 g15 g16 g17 r0 r1 r2 r3) s.heap.size = A at hD hT ⊢
  have hA : ∀ q : Nat, s.heap.size ≤ q → A q := fun q h => by rw [← hAe]; exact Or.inr h
  have hS : va_S A s.heap s.heap [] := va_S.rf
  have hl := lv_entry ([.ref h0, .int k1]) (n := 2) (Nat.le_of_ble_eq_true rfl)
  rw [lg_entry_eq]
  generalize (lg_sl ([.ref h0, .int k1]) ++ List.replicate (2 - (lg_sl ([.ref h0, .int k1])).length) Slot.unset).toArray = ls at hl ⊢
  have hl : lv_has ls 2 [(0, .ref h0), (1, .int k1)] := hl
  generalize hX : sX_beginPhase g4 g5 g6 g7 g8 g9 g10 g11 g12 g13 g14 g15 g16 g17 r0 r1 r2 r3 k1 = X
  refine bw_Q (fun Q hQ => ?_)
  have hinU : ∀ w ∈ wsX00, w ∈ wsX0_beginPhase := fun w h => List.mem_cons_of_mem _ (List.mem_append_right _ h)
  unfold sX_beginPhase at hX
  unfold bX_beginPhase_0 at hX
  refine lv_aload_n hx hb dX0_beginPhase_0 rfl (lv_at hl 0 rfl) ?_
  refine lv_iload_n hx hb dX0_beginPhase_1 rfl (lv_at hl 1 rfl) ?_
  refine va_put (D := D) (ci := 0) (v := .int k1) (ty := .int) (C := RX0) (T := TX0) (N := 18) hx hb hts hinU tyX0 tyX0_ok nmX0 hown hK hP hD hS 0 rfl rfl 4 (by decide) (hts (.fieldLink RX0 33 "BloodCircuitChannels" "phase" "I") (by decide +kernel)) (fun _ h9 => h9) rfl (by decide +kernel) rfl rfl (Nat.le_of_ble_eq_true rfl) dX0_beginPhase_2 (fun H locs hP hD hS => ?_)
  have hP : va_P D vwC2 (wdX cI h0 a0 a1 a2 a3 k1 g5 g6 g7 g8 g9 g10 g11 g12 g13 g14 g15 g16 g17 r0 r1 r2 r3) H := hP
  have hD : va_D A (wdX cI h0 a0 a1 a2 a3 k1 g5 g6 g7 g8 g9 g10 g11 g12 g13 g14 g15 g16 g17 r0 r1 r2 r3) := hD
  refine lv_aload_n hx hb dX0_beginPhase_5 rfl (lv_at hl 0 rfl) ?_
  refine lv_iconst (v := 0) hx hb dX0_beginPhase_6 (by decide +kernel) ?_
  refine va_put (D := D) (ci := 0) (v := .int 0) (ty := .int) (C := RX0) (T := TX0) (N := 18) hx hb hts hinU tyX0 tyX0_ok nmX0 hown hK hP hD hS 0 rfl rfl 13 (by decide) (hts (.fieldLink RX0 89 "BloodCircuitChannels" "counted" "I") (by decide +kernel)) (fun _ h9 => h9) rfl (by decide +kernel) rfl rfl (Nat.le_of_ble_eq_true rfl) dX0_beginPhase_7 (fun H locs hP hD hS => ?_)
  have hP : va_P D vwC2 (wdX cI h0 a0 a1 a2 a3 k1 g5 g6 g7 g8 g9 g10 g11 g12 0 g14 g15 g16 g17 r0 r1 r2 r3) H := hP
  have hD : va_D A (wdX cI h0 a0 a1 a2 a3 k1 g5 g6 g7 g8 g9 g10 g11 g12 0 g14 g15 g16 g17 r0 r1 r2 r3) := hD
  refine lv_iload_n hx hb dX0_beginPhase_10 rfl (lv_at hl 1 rfl) ?_
  refine lv_iconst (v := 3) hx hb dX0_beginPhase_11 (by decide +kernel) ?_
  refine lv_icmp_ne (tgt := 30) hx hb dX0_beginPhase_12 (by decide) (fun hc12 => ?_) (fun hc12 => ?_)
  · rw [if_neg hc12] at hX
    subst hQ
    exact W.vret hx hb hr (fun t ht hW => ⟨⟨(k1, g5, g6, g7, g8, g9, g10, g11, g12, 0, g14, g15, g16, g17, r0, r1, r2, r3), rfl, hX, by rw [ht]; exact hP, va_K.moved hW.alike hK, hD⟩, hS.F ht⟩) hS.2.2 dX0_beginPhase_30
  · rw [if_pos hc12] at hX
    unfold bX_beginPhase_15 at hX
    refine lv_aload_n hx hb dX0_beginPhase_15 rfl (lv_at hl 0 rfl) ?_
    refine lv_iconst (v := 0) hx hb dX0_beginPhase_16 (by decide +kernel) ?_
    refine va_put (D := D) (ci := 0) (v := .int 0) (ty := .int) (C := RX0) (T := TX0) (N := 18) hx hb hts hinU tyX0 tyX0_ok nmX0 hown hK hP hD hS 0 rfl rfl 9 (by decide) (hts (.fieldLink RX0 77 "BloodCircuitChannels" "effective" "I") (by decide +kernel)) (fun _ h9 => h9) rfl (by decide +kernel) rfl rfl (Nat.le_of_ble_eq_true rfl) dX0_beginPhase_17 (fun H locs hP hD hS => ?_)
    have hP : va_P D vwC2 (wdX cI h0 a0 a1 a2 a3 k1 g5 g6 g7 g8 0 g10 g11 g12 0 g14 g15 g16 g17 r0 r1 r2 r3) H := hP
    have hD : va_D A (wdX cI h0 a0 a1 a2 a3 k1 g5 g6 g7 g8 0 g10 g11 g12 0 g14 g15 g16 g17 r0 r1 r2 r3) := hD
    refine lv_aload_n hx hb dX0_beginPhase_20 rfl (lv_at hl 0 rfl) ?_
    refine lv_iconst (v := 0) hx hb dX0_beginPhase_21 (by decide +kernel) ?_
    refine va_put (D := D) (ci := 0) (v := .int 0) (ty := .int) (C := RX0) (T := TX0) (N := 18) hx hb hts hinU tyX0 tyX0_ok nmX0 hown hK hP hD hS 0 rfl rfl 10 (by decide) (hts (.fieldLink RX0 80 "BloodCircuitChannels" "accounted" "I") (by decide +kernel)) (fun _ h9 => h9) rfl (by decide +kernel) rfl rfl (Nat.le_of_ble_eq_true rfl) dX0_beginPhase_22 (fun H locs hP hD hS => ?_)
    have hP : va_P D vwC2 (wdX cI h0 a0 a1 a2 a3 k1 g5 g6 g7 g8 0 0 g11 g12 0 g14 g15 g16 g17 r0 r1 r2 r3) H := hP
    have hD : va_D A (wdX cI h0 a0 a1 a2 a3 k1 g5 g6 g7 g8 0 0 g11 g12 0 g14 g15 g16 g17 r0 r1 r2 r3) := hD
    refine lv_aload_n hx hb dX0_beginPhase_25 rfl (lv_at hl 0 rfl) ?_
    refine lv_iconst (v := 0) hx hb dX0_beginPhase_26 (by decide +kernel) ?_
    refine va_put (D := D) (ci := 0) (v := .int 0) (ty := .int) (C := RX0) (T := TX0) (N := 18) hx hb hts hinU tyX0 tyX0_ok nmX0 hown hK hP hD hS 0 rfl rfl 11 (by decide) (hts (.fieldLink RX0 83 "BloodCircuitChannels" "strokes" "I") (by decide +kernel)) (fun _ h9 => h9) rfl (by decide +kernel) rfl rfl (Nat.le_of_ble_eq_true rfl) dX0_beginPhase_27 (fun H locs hP hD hS => ?_)
    have hP : va_P D vwC2 (wdX cI h0 a0 a1 a2 a3 k1 g5 g6 g7 g8 0 0 0 g12 0 g14 g15 g16 g17 r0 r1 r2 r3) H := hP
    have hD : va_D A (wdX cI h0 a0 a1 a2 a3 k1 g5 g6 g7 g8 0 0 0 g12 0 g14 g15 g16 g17 r0 r1 r2 r3) := hD
    subst hQ
    exact W.vret hx hb hr (fun t ht hW => ⟨⟨(k1, g5, g6, g7, g8, 0, 0, 0, g12, 0, g14, g15, g16, g17, r0, r1, r2, r3), rfl, hX, by rw [ht]; exact hP, va_K.moved hW.alike hK, hD⟩, hS.F ht⟩) hS.2.2 dX0_beginPhase_30
abbrev rmX_next : Room := { frames := 2, cells := 0, slots := 0, locals := 40 }
set_option maxHeartbeats 4000000 in
set_option maxRecDepth 100000 in
theorem ctX_next (l : Launch) (D : va_G) (cI : ClassId) (h0 a0 a1 a2 a3 sz : Nat) (g4 g5 g6 g7 g8 g9 g10 g11 g12 g13 g14 g15 g16 g17 : Int32) (r0 r1 r2 r3 : Nat → Int32)   : Met l yX0_next wsX0_next rmX_next (va_Pc [.ref h0] (bw_pr D vwC2 [(cI, .int)] (wdX cI h0 a0 a1 a2 a3 g4 g5 g6 g7 g8 g9 g10 g11 g12 g13 g14 g15 g16 g17 r0 r1 r2 r3) sz (tbX (va_A (wdX cI h0 a0 a1 a2 a3 g4 g5 g6 g7 g8 g9 g10 g11 g12 g13 g14 g15 g16 g17 r0 r1 r2 r3) sz)))) (va_Qi (fun r u => (r, u) = sX_next g4 g5 g6 g7 g8 g9 g10 g11 g12 g13 g14 g15 g16 g17 r0 r1 r2 r3) (bw_at D vwC2 [(cI, .int)] (wfX cI h0 a0 a1 a2 a3) (va_A (wdX cI h0 a0 a1 a2 a3 g4 g5 g6 g7 g8 g9 g10 g11 g12 g13 g14 g15 g16 g17 r0 r1 r2 r3) sz)) (va_A (wdX cI h0 a0 a1 a2 a3 g4 g5 g6 g7 g8 g9 g10 g11 g12 g13 g14 g15 g16 g17 r0 r1 r2 r3) sz)) 0 0 (va_A (wdX cI h0 a0 a1 a2 a3 g4 g5 g6 g7 g8 g9 g10 g11 g12 g13 g14 g15 g16 g17 r0 r1 r2 r3) sz) := by
  refine Met.ofW (cc := cX0_next) (maxL := 1) (ret := (some .int)) (by decide) rfl ?_
  intro p e s m args below meth c s₁ B hml hv
  obtain ⟨rfl, hsz, hP, hK, hD0, hT⟩ := hv
  have hx := B.exec
  have hb := B.bytes
  have hr := B.returns
  have hts := atoms_spec (ws := wsX0_next) B.pre
  have hown : s.vm.findClass RX0 = some m.cls := findClass_of_methodNamed B.named
  have hlocks := B.notSynchronized
  subst hsz
  have hD := hD0.self (sz := s.heap.size)
  generalize hAe : va_A (wdX cI h0 a0 a1 a2 a3 g4 g5 g6 g7 g8 g9 g10 g11 g12 g13 g14 g15 g16 g17 r0 r1 r2 r3) s.heap.size = A at hD hT ⊢
  have hA : ∀ q : Nat, s.heap.size ≤ q → A q := fun q h => by rw [← hAe]; exact Or.inr h
  have hS : va_S A s.heap s.heap [] := va_S.rf
  have hl := lv_entry ([.ref h0]) (n := 1) (Nat.le_of_ble_eq_true rfl)
  rw [lg_entry_eq]
  generalize (lg_sl ([.ref h0]) ++ List.replicate (1 - (lg_sl ([.ref h0])).length) Slot.unset).toArray = ls at hl ⊢
  have hl : lv_has ls 1 [(0, .ref h0)] := hl
  generalize hX : sX_next g4 g5 g6 g7 g8 g9 g10 g11 g12 g13 g14 g15 g16 g17 r0 r1 r2 r3 = X
  refine bw_Q (fun Q hQ => ?_)
  have hinU : ∀ w ∈ wsX00, w ∈ wsX0_next := fun w h => List.mem_cons_of_mem _ (List.mem_append_right _ h)
  have J29 : ∀ (g4 g5 g6 g7 g8 g9 g10 g11 g12 g13 g14 g15 g16 g17 : Int32) (r0 r1 r2 r3 : Nat → Int32) (y0 : Int32) (H : Heap) (locs : List Loc) (ls : Array Slot), lv_has ls 1 [(0, .ref h0)] → va_P D vwC2 (wdX cI h0 a0 a1 a2 a3 g4 g5 g6 g7 g8 g9 g10 g11 g12 g13 g14 g15 g16 g17 r0 r1 r2 r3) H → va_D A (wdX cI h0 a0 a1 a2 a3 g4 g5 g6 g7 g8 g9 g10 g11 g12 g13 g14 g15 g16 g17 r0 r1 r2 r3) → va_S A s.heap H locs → bX_next_29 g4 g5 g6 g7 g8 g9 g10 g11 g12 g13 g14 g15 g16 g17 r0 r1 r2 r3 y0 = X → W p l e (headSpec wsX0_next rmX_next).room s m ([.ref h0] : List Value).toArray below meth c H locs 0 0 Q (F0 m 29 ls [.int y0, .ref h0]) := by
    intro g4 g5 g6 g7 g8 g9 g10 g11 g12 g13 g14 g15 g16 g17 r0 r1 r2 r3 y0 H locs ls hl hP hD hS hX
    unfold bX_next_29 at hX
    refine bw_Vv (wr := []) (As := [.int y0]) (rest := []) ⟨hx, hb, hml, hown, hts⟩ (ctX_beginPhase l D cI h0 a0 a1 a2 a3 _ g4 g5 g6 g7 g8 g9 g10 g11 g12 g13 g14 g15 g16 g17 r0 r1 r2 r3 y0) (cwV 1 hts gX0_next_X0_beginPhase rfl rfl rfl (by decide +kernel) ⟨Nat.le_of_ble_eq_true rfl, Nat.le_of_ble_eq_true rfl⟩) hK hP hD hS hA (tbX_bl) (tbX_to hT hS (bw_free (wr := []) hD hS hA)) 0 rfl rfl rfl hl.1 rfl (Nat.le_of_ble_eq_true rfl) dX0_next_29 ⟨Nat.le_of_ble_eq_true rfl, Nat.le_of_ble_eq_true rfl⟩ (fun u H locs hu hP hD hS => ?_)
    obtain ⟨g4c1, g5c1, g6c1, g7c1, g8c1, g9c1, g10c1, g11c1, g12c1, g13c1, g14c1, g15c1, g16c1, g17c1, r0c1, r1c1, r2c1, r3c1⟩ := u
    have hu1 := hu
    rw [← hu] at hX
    have hP : va_P D vwC2 (wdX cI h0 a0 a1 a2 a3 g4c1 g5c1 g6c1 g7c1 g8c1 g9c1 g10c1 g11c1 g12c1 g13c1 g14c1 g15c1 g16c1 g17c1 r0c1 r1c1 r2c1 r3c1) H := hP
    have hD : va_D A (wdX cI h0 a0 a1 a2 a3 g4c1 g5c1 g6c1 g7c1 g8c1 g9c1 g10c1 g11c1 g12c1 g13c1 g14c1 g15c1 g16c1 g17c1 r0c1 r1c1 r2c1 r3c1) := hD
    have hX : bX_next_32 g4c1 g5c1 g6c1 g7c1 g8c1 g9c1 g10c1 g11c1 g12c1 g13c1 g14c1 g15c1 g16c1 g17c1 r0c1 r1c1 r2c1 r3c1 = X := hX
    unfold bX_next_32 at hX
    refine lv_aload_n hx hb dX0_next_32 rfl (lv_at hl 0 rfl) ?_
    refine va_get (D := D) (ci := 0) (v := .int g4c1) (C := RX0) (T := TX0) (N := 18) hx hb hts hinU hown hK hP 0 rfl rfl 4 (by decide) (hts (.fieldLink RX0 33 "BloodCircuitChannels" "phase" "I") (by decide +kernel)) (fun _ h9 => h9) rfl dX0_next_33 ?_
    subst hQ
    exact W.iret (v := g4c1) hx hb hr (fun t ht hW => ⟨⟨g4c1, (g4c1, g5c1, g6c1, g7c1, g8c1, g9c1, g10c1, g11c1, g12c1, g13c1, g14c1, g15c1, g16c1, g17c1, r0c1, r1c1, r2c1, r3c1), rfl, hX, by rw [ht]; exact hP, va_K.moved hW.alike hK, hD⟩, hS.F ht⟩) hS.2.2 dX0_next_36
  unfold sX_next at hX
  unfold bX_next_0 at hX
  refine lv_aload_n hx hb dX0_next_0 rfl (lv_at hl 0 rfl) ?_
  refine bw_Vi (wr := []) (As := []) (rest := []) ⟨hx, hb, hml, hown, hts⟩ (ctX_mayLeavePhase l D cI h0 a0 a1 a2 a3 _ g4 g5 g6 g7 g8 g9 g10 g11 g12 g13 g14 g15 g16 g17 r0 r1 r2 r3) (cwV 0 hts gX0_next_X0_mayLeavePhase rfl rfl rfl (by decide +kernel) ⟨Nat.le_of_ble_eq_true rfl, Nat.le_of_ble_eq_true rfl⟩) hK hP hD hS hA (tbX_bl) (tbX_to hT hS (bw_free (wr := []) hD hS hA)) 0 rfl rfl rfl hl.1 rfl (Nat.le_of_ble_eq_true rfl) dX0_next_1 ⟨Nat.le_of_ble_eq_true rfl, Nat.le_of_ble_eq_true rfl⟩ (fun q2 u H locs hu hP hD hS => ?_)
  obtain ⟨hr1, rfl⟩ := hu
  subst hr1
  have hP : va_P D vwC2 (wdX cI h0 a0 a1 a2 a3 g4 g5 g6 g7 g8 g9 g10 g11 g12 g13 g14 g15 g16 g17 r0 r1 r2 r3) H := hP
  have hD : va_D A (wdX cI h0 a0 a1 a2 a3 g4 g5 g6 g7 g8 g9 g10 g11 g12 g13 g14 g15 g16 g17 r0 r1 r2 r3) := hD
  refine lv_if_ne (tgt := 9) hx hb dX0_next_4 (by decide) (fun hc4 => ?_) (fun hc4 => ?_)
  · rw [if_neg hc4] at hX
    unfold bX_next_9 at hX
    refine lv_aload_n hx hb dX0_next_9 rfl (lv_at hl 0 rfl) ?_
    refine lv_aload_n hx hb dX0_next_10 rfl (lv_at hl 0 rfl) ?_
    refine va_get (D := D) (ci := 0) (v := .int g4) (C := RX0) (T := TX0) (N := 18) hx hb hts hinU hown hK hP 0 rfl rfl 4 (by decide) (hts (.fieldLink RX0 33 "BloodCircuitChannels" "phase" "I") (by decide +kernel)) (fun _ h9 => h9) rfl dX0_next_11 ?_
    refine lv_bipush (v := 6) hx hb dX0_next_14 (by decide +kernel) ?_
    refine lv_icmp_ne (tgt := 23) hx hb dX0_next_16 (by decide) (fun hc16 => ?_) (fun hc16 => ?_)
    · rw [if_neg hc16] at hX
      unfold bX_next_23 at hX
      refine lv_aload_n hx hb dX0_next_23 rfl (lv_at hl 0 rfl) ?_
      refine va_get (D := D) (ci := 0) (v := .int g4) (C := RX0) (T := TX0) (N := 18) hx hb hts hinU hown hK hP 0 rfl rfl 4 (by decide) (hts (.fieldLink RX0 33 "BloodCircuitChannels" "phase" "I") (by decide +kernel)) (fun _ h9 => h9) rfl dX0_next_24 ?_
      refine lv_iconst (v := 1) hx hb dX0_next_27 (by decide +kernel) ?_
      refine lv_iadd hx hb dX0_next_28 ?_
      exact J29 g4 g5 g6 g7 g8 g9 g10 g11 g12 g13 g14 g15 g16 g17 r0 r1 r2 r3 (g4 + 1) _ _ ls (lv_sub hl [0] rfl) hP hD hS hX
    · rw [if_pos hc16] at hX
      unfold bX_next_19 at hX
      refine lv_iconst (v := 0) hx hb dX0_next_19 (by decide +kernel) ?_
      refine lv_goto (tgt := 29) hx hb dX0_next_20 (by decide) ?_
      exact J29 g4 g5 g6 g7 g8 g9 g10 g11 g12 g13 g14 g15 g16 g17 r0 r1 r2 r3 0 _ _ ls (lv_sub hl [0] rfl) hP hD hS hX
  · rw [if_pos hc4] at hX
    unfold bX_next_7 at hX
    refine lv_iconst (v := (-1)) hx hb dX0_next_7 (by decide +kernel) ?_
    subst hQ
    exact W.iret (v := (-1)) hx hb hr (fun t ht hW => ⟨⟨(-1), (g4, g5, g6, g7, g8, g9, g10, g11, g12, g13, g14, g15, g16, g17, r0, r1, r2, r3), rfl, hX, by rw [ht]; exact hP, va_K.moved hW.alike hK, hD⟩, hS.F ht⟩) hS.2.2 dX0_next_8
abbrev rmX_acknowledge : Room := { frames := 0, cells := 0, slots := 0, locals := 0 }
set_option maxHeartbeats 4000000 in
set_option maxRecDepth 100000 in
theorem ctX_acknowledge (l : Launch) (D : va_G) (cI : ClassId) (h0 a0 a1 a2 a3 sz : Nat) (g4 g5 g6 g7 g8 g9 g10 g11 g12 g13 g14 g15 g16 g17 : Int32) (r0 r1 r2 r3 : Nat → Int32)   : Met l yX0_acknowledge wsX0_acknowledge rmX_acknowledge (va_Pc [.ref h0] (bw_pr D vwC2 [(cI, .int)] (wdX cI h0 a0 a1 a2 a3 g4 g5 g6 g7 g8 g9 g10 g11 g12 g13 g14 g15 g16 g17 r0 r1 r2 r3) sz (tbX (va_A (wdX cI h0 a0 a1 a2 a3 g4 g5 g6 g7 g8 g9 g10 g11 g12 g13 g14 g15 g16 g17 r0 r1 r2 r3) sz)))) (va_Qi (fun r u => (r, u) = sX_acknowledge g4 g5 g6 g7 g8 g9 g10 g11 g12 g13 g14 g15 g16 g17 r0 r1 r2 r3) (bw_at D vwC2 [(cI, .int)] (wfX cI h0 a0 a1 a2 a3) (va_A (wdX cI h0 a0 a1 a2 a3 g4 g5 g6 g7 g8 g9 g10 g11 g12 g13 g14 g15 g16 g17 r0 r1 r2 r3) sz)) (va_A (wdX cI h0 a0 a1 a2 a3 g4 g5 g6 g7 g8 g9 g10 g11 g12 g13 g14 g15 g16 g17 r0 r1 r2 r3) sz)) 0 0 (va_A (wdX cI h0 a0 a1 a2 a3 g4 g5 g6 g7 g8 g9 g10 g11 g12 g13 g14 g15 g16 g17 r0 r1 r2 r3) sz) := by
  refine Met.ofW (cc := cX0_acknowledge) (maxL := 1) (ret := (some .int)) (by decide) rfl ?_
  intro p e s m args below meth c s₁ B hml hv
  obtain ⟨rfl, hsz, hP, hK, hD0, hT⟩ := hv
  have hx := B.exec
  have hb := B.bytes
  have hr := B.returns
  have hts := atoms_spec (ws := wsX0_acknowledge) B.pre
  have hown : s.vm.findClass RX0 = some m.cls := findClass_of_methodNamed B.named
  have hlocks := B.notSynchronized
  subst hsz
  have hD := hD0.self (sz := s.heap.size)
  generalize hAe : va_A (wdX cI h0 a0 a1 a2 a3 g4 g5 g6 g7 g8 g9 g10 g11 g12 g13 g14 g15 g16 g17 r0 r1 r2 r3) s.heap.size = A at hD hT ⊢
  have hA : ∀ q : Nat, s.heap.size ≤ q → A q := fun q h => by rw [← hAe]; exact Or.inr h
  have hS : va_S A s.heap s.heap [] := va_S.rf
  have hl := lv_entry ([.ref h0]) (n := 1) (Nat.le_of_ble_eq_true rfl)
  rw [lg_entry_eq]
  generalize (lg_sl ([.ref h0]) ++ List.replicate (1 - (lg_sl ([.ref h0])).length) Slot.unset).toArray = ls at hl ⊢
  have hl : lv_has ls 1 [(0, .ref h0)] := hl
  generalize hX : sX_acknowledge g4 g5 g6 g7 g8 g9 g10 g11 g12 g13 g14 g15 g16 g17 r0 r1 r2 r3 = X
  refine bw_Q (fun Q hQ => ?_)
  have hinU : ∀ w ∈ wsX00, w ∈ wsX0_acknowledge := fun w h => List.mem_cons_of_mem _ (List.mem_append_right _ h)
  unfold sX_acknowledge at hX
  unfold bX_acknowledge_0 at hX
  refine lv_aload_n hx hb dX0_acknowledge_0 rfl (lv_at hl 0 rfl) ?_
  refine lv_dup hx hb dX0_acknowledge_1 rfl ?_
  refine va_get (D := D) (ci := 0) (v := .int g5) (C := RX0) (T := TX0) (N := 18) hx hb hts hinU hown hK hP 0 rfl rfl 5 (by decide) (hts (.fieldLink RX0 65 "BloodCircuitChannels" "alarms" "I") (by decide +kernel)) (fun _ h9 => h9) rfl dX0_acknowledge_2 ?_
  refine lv_aload_n hx hb dX0_acknowledge_5 rfl (lv_at hl 0 rfl) ?_
  refine va_get (D := D) (ci := 0) (v := .int g6) (C := RX0) (T := TX0) (N := 18) hx hb hts hinU hown hK hP 0 rfl rfl 6 (by decide) (hts (.fieldLink RX0 68 "BloodCircuitChannels" "conditions" "I") (by decide +kernel)) (fun _ h9 => h9) rfl dX0_acknowledge_6 ?_
  refine lv_iand hx hb dX0_acknowledge_9 ?_
  refine va_put (D := D) (ci := 0) (v := .int (g5 &&& g6)) (ty := .int) (C := RX0) (T := TX0) (N := 18) hx hb hts hinU tyX0 tyX0_ok nmX0 hown hK hP hD hS 0 rfl rfl 5 (by decide) (hts (.fieldLink RX0 65 "BloodCircuitChannels" "alarms" "I") (by decide +kernel)) (fun _ h9 => h9) rfl (by decide +kernel) rfl rfl (Nat.le_of_ble_eq_true rfl) dX0_acknowledge_10 (fun H locs hP hD hS => ?_)
  have hP : va_P D vwC2 (wdX cI h0 a0 a1 a2 a3 g4 (g5 &&& g6) g6 g7 g8 g9 g10 g11 g12 g13 g14 g15 g16 g17 r0 r1 r2 r3) H := hP
  have hD : va_D A (wdX cI h0 a0 a1 a2 a3 g4 (g5 &&& g6) g6 g7 g8 g9 g10 g11 g12 g13 g14 g15 g16 g17 r0 r1 r2 r3) := hD
  refine lv_aload_n hx hb dX0_acknowledge_13 rfl (lv_at hl 0 rfl) ?_
  refine va_get (D := D) (ci := 0) (v := .int (g5 &&& g6)) (C := RX0) (T := TX0) (N := 18) hx hb hts hinU hown hK hP 0 rfl rfl 5 (by decide) (hts (.fieldLink RX0 65 "BloodCircuitChannels" "alarms" "I") (by decide +kernel)) (fun _ h9 => h9) rfl dX0_acknowledge_14 ?_
  subst hQ
  exact W.iret (v := g5 &&& g6) hx hb hr (fun t ht hW => ⟨⟨g5 &&& g6, (g4, g5 &&& g6, g6, g7, g8, g9, g10, g11, g12, g13, g14, g15, g16, g17, r0, r1, r2, r3), rfl, hX, by rw [ht]; exact hP, va_K.moved hW.alike hK, hD⟩, hS.F ht⟩) hS.2.2 dX0_acknowledge_17
abbrev rmX_substitute : Room := { frames := 1, cells := 0, slots := 0, locals := 22 }
set_option maxHeartbeats 4000000 in
set_option maxRecDepth 100000 in
theorem ctX_substitute (l : Launch) (D : va_G) (cI : ClassId) (h0 a0 a1 a2 a3 sz : Nat) (g4 g5 g6 g7 g8 g9 g10 g11 g12 g13 g14 g15 g16 g17 : Int32) (r0 r1 r2 r3 : Nat → Int32) (k1 : Int32)  : Met l yX0_substitute wsX0_substitute rmX_substitute (va_Pc [.ref h0, .int k1] (bw_pr D vwC2 [(cI, .int)] (wdX cI h0 a0 a1 a2 a3 g4 g5 g6 g7 g8 g9 g10 g11 g12 g13 g14 g15 g16 g17 r0 r1 r2 r3) sz (tbX (va_A (wdX cI h0 a0 a1 a2 a3 g4 g5 g6 g7 g8 g9 g10 g11 g12 g13 g14 g15 g16 g17 r0 r1 r2 r3) sz)))) (va_Qi (fun r u => (r, u) = sX_substitute g4 g5 g6 g7 g8 g9 g10 g11 g12 g13 g14 g15 g16 g17 r0 r1 r2 r3 k1) (bw_at D vwC2 [(cI, .int)] (wfX cI h0 a0 a1 a2 a3) (va_A (wdX cI h0 a0 a1 a2 a3 g4 g5 g6 g7 g8 g9 g10 g11 g12 g13 g14 g15 g16 g17 r0 r1 r2 r3) sz)) (va_A (wdX cI h0 a0 a1 a2 a3 g4 g5 g6 g7 g8 g9 g10 g11 g12 g13 g14 g15 g16 g17 r0 r1 r2 r3) sz)) 0 0 (va_A (wdX cI h0 a0 a1 a2 a3 g4 g5 g6 g7 g8 g9 g10 g11 g12 g13 g14 g15 g16 g17 r0 r1 r2 r3) sz) := by
  refine Met.ofW (cc := cX0_substitute) (maxL := 2) (ret := (some .boolean)) (by decide) rfl ?_
  intro p e s m args below meth c s₁ B hml hv
  obtain ⟨rfl, hsz, hP, hK, hD0, hT⟩ := hv
  have hx := B.exec
  have hb := B.bytes
  have hr := B.returns
  have hts := atoms_spec (ws := wsX0_substitute) B.pre
  have hown : s.vm.findClass RX0 = some m.cls := findClass_of_methodNamed B.named
  have hlocks := B.notSynchronized
  subst hsz
  have hD := hD0.self (sz := s.heap.size)
  generalize hAe : va_A (wdX cI h0 a0 a1 a2 a3 g4 g5 g6 g7 g8 g9 g10 g11 g12 g13 g14 g15 g16 g17 r0 r1 r2 r3) s.heap.size = A at hD hT ⊢
  have hA : ∀ q : Nat, s.heap.size ≤ q → A q := fun q h => by rw [← hAe]; exact Or.inr h
  have hS : va_S A s.heap s.heap [] := va_S.rf
  have hl := lv_entry ([.ref h0, .int k1]) (n := 2) (Nat.le_of_ble_eq_true rfl)
  rw [lg_entry_eq]
  generalize (lg_sl ([.ref h0, .int k1]) ++ List.replicate (2 - (lg_sl ([.ref h0, .int k1])).length) Slot.unset).toArray = ls at hl ⊢
  have hl : lv_has ls 2 [(0, .ref h0), (1, .int k1)] := hl
  generalize hX : sX_substitute g4 g5 g6 g7 g8 g9 g10 g11 g12 g13 g14 g15 g16 g17 r0 r1 r2 r3 k1 = X
  refine bw_Q (fun Q hQ => ?_)
  have hinU : ∀ w ∈ wsX00, w ∈ wsX0_substitute := fun w h => List.mem_cons_of_mem _ (List.mem_append_right _ h)
  unfold sX_substitute at hX
  unfold bX_substitute_0 at hX
  refine lv_iload_n hx hb dX0_substitute_0 rfl (lv_at hl 1 rfl) ?_
  refine lv_iconst (v := (-1)) hx hb dX0_substitute_1 (by decide +kernel) ?_
  refine lv_bipush (v := 15) hx hb dX0_substitute_2 (by decide +kernel) ?_
  refine bw_Si (As := [.int k1, .int ((-1)), .int 15]) (rest := []) ⟨hx, hb, hml, hown, hts⟩ (ctX_isOutside l _ k1 ((-1)) 15) (va_cwS 3 hts gX0_substitute_X0_isOutside rfl rfl rfl (by decide +kernel) ⟨Nat.le_of_ble_eq_true rfl, Nat.le_of_ble_eq_true rfl⟩) hP hS hA rfl hl.1 rfl (Nat.le_of_ble_eq_true rfl) dX0_substitute_4 ⟨Nat.le_of_ble_eq_true rfl, Nat.le_of_ble_eq_true rfl⟩ (fun H locs hP hS => ?_)
  refine lv_if_eq (tgt := 12) hx hb dX0_substitute_7 (by decide) (fun hc7 => ?_) (fun hc7 => ?_)
  · rw [if_pos hc7] at hX
    unfold bX_substitute_12 at hX
    refine lv_aload_n hx hb dX0_substitute_12 rfl (lv_at hl 0 rfl) ?_
    refine lv_iload_n hx hb dX0_substitute_13 rfl (lv_at hl 1 rfl) ?_
    refine va_put (D := D) (ci := 0) (v := .int k1) (ty := .int) (C := RX0) (T := TX0) (N := 18) hx hb hts hinU tyX0 tyX0_ok nmX0 hown hK hP hD hS 0 rfl rfl 8 (by decide) (hts (.fieldLink RX0 37 "BloodCircuitChannels" "substituted" "I") (by decide +kernel)) (fun _ h9 => h9) rfl (by decide +kernel) rfl rfl (Nat.le_of_ble_eq_true rfl) dX0_substitute_14 (fun H locs hP hD hS => ?_)
    have hP : va_P D vwC2 (wdX cI h0 a0 a1 a2 a3 g4 g5 g6 g7 k1 g9 g10 g11 g12 g13 g14 g15 g16 g17 r0 r1 r2 r3) H := hP
    have hD : va_D A (wdX cI h0 a0 a1 a2 a3 g4 g5 g6 g7 k1 g9 g10 g11 g12 g13 g14 g15 g16 g17 r0 r1 r2 r3) := hD
    refine lv_iconst (v := 1) hx hb dX0_substitute_17 (by decide +kernel) ?_
    subst hQ
    exact W.zret (ty := .boolean) (v := 1) hx hb hr (by decide +kernel) (fun t ht hW => ⟨⟨1, (g4, g5, g6, g7, k1, g9, g10, g11, g12, g13, g14, g15, g16, g17, r0, r1, r2, r3), rfl, hX, by rw [ht]; exact hP, va_K.moved hW.alike hK, hD⟩, hS.F ht⟩) hS.2.2 dX0_substitute_18
  · rw [if_neg hc7] at hX
    unfold bX_substitute_10 at hX
    refine lv_iconst (v := 0) hx hb dX0_substitute_10 (by decide +kernel) ?_
    subst hQ
    exact W.zret (ty := .boolean) (v := 0) hx hb hr (by decide +kernel) (fun t ht hW => ⟨⟨0, (g4, g5, g6, g7, g8, g9, g10, g11, g12, g13, g14, g15, g16, g17, r0, r1, r2, r3), rfl, hX, by rw [ht]; exact hP, va_K.moved hW.alike hK, hD⟩, hS.F ht⟩) hS.2.2 dX0_substitute_11
abbrev rmX_phase : Room := { frames := 0, cells := 0, slots := 0, locals := 0 }
set_option maxHeartbeats 4000000 in
set_option maxRecDepth 100000 in
theorem ctX_phase (l : Launch) (D : va_G) (cI : ClassId) (h0 a0 a1 a2 a3 sz : Nat) (g4 g5 g6 g7 g8 g9 g10 g11 g12 g13 g14 g15 g16 g17 : Int32) (r0 r1 r2 r3 : Nat → Int32)   : Met l yX0_phase wsX0_phase rmX_phase (va_Pc [.ref h0] (bw_pr D vwC2 [(cI, .int)] (wdX cI h0 a0 a1 a2 a3 g4 g5 g6 g7 g8 g9 g10 g11 g12 g13 g14 g15 g16 g17 r0 r1 r2 r3) sz (tbX (va_A (wdX cI h0 a0 a1 a2 a3 g4 g5 g6 g7 g8 g9 g10 g11 g12 g13 g14 g15 g16 g17 r0 r1 r2 r3) sz)))) (va_Qi (fun r u => r = sX_phase g4 g5 g6 g7 g8 g9 g10 g11 g12 g13 g14 g15 g16 g17 r0 r1 r2 r3 ∧ u = (g4, g5, g6, g7, g8, g9, g10, g11, g12, g13, g14, g15, g16, g17, r0, r1, r2, r3)) (bw_at D vwC2 [(cI, .int)] (wfX cI h0 a0 a1 a2 a3) (va_A (wdX cI h0 a0 a1 a2 a3 g4 g5 g6 g7 g8 g9 g10 g11 g12 g13 g14 g15 g16 g17 r0 r1 r2 r3) sz)) (va_A (wdX cI h0 a0 a1 a2 a3 g4 g5 g6 g7 g8 g9 g10 g11 g12 g13 g14 g15 g16 g17 r0 r1 r2 r3) sz)) 0 0 (va_A (wdX cI h0 a0 a1 a2 a3 g4 g5 g6 g7 g8 g9 g10 g11 g12 g13 g14 g15 g16 g17 r0 r1 r2 r3) sz) := by
  refine Met.ofW (cc := cX0_phase) (maxL := 1) (ret := (some .int)) (by decide) rfl ?_
  intro p e s m args below meth c s₁ B hml hv
  obtain ⟨rfl, hsz, hP, hK, hD0, hT⟩ := hv
  have hx := B.exec
  have hb := B.bytes
  have hr := B.returns
  have hts := atoms_spec (ws := wsX0_phase) B.pre
  have hown : s.vm.findClass RX0 = some m.cls := findClass_of_methodNamed B.named
  have hlocks := B.notSynchronized
  subst hsz
  have hD := hD0.self (sz := s.heap.size)
  generalize hAe : va_A (wdX cI h0 a0 a1 a2 a3 g4 g5 g6 g7 g8 g9 g10 g11 g12 g13 g14 g15 g16 g17 r0 r1 r2 r3) s.heap.size = A at hD hT ⊢
  have hA : ∀ q : Nat, s.heap.size ≤ q → A q := fun q h => by rw [← hAe]; exact Or.inr h
  have hS : va_S A s.heap s.heap [] := va_S.rf
  have hl := lv_entry ([.ref h0]) (n := 1) (Nat.le_of_ble_eq_true rfl)
  rw [lg_entry_eq]
  generalize (lg_sl ([.ref h0]) ++ List.replicate (1 - (lg_sl ([.ref h0])).length) Slot.unset).toArray = ls at hl ⊢
  have hl : lv_has ls 1 [(0, .ref h0)] := hl
  generalize hX : sX_phase g4 g5 g6 g7 g8 g9 g10 g11 g12 g13 g14 g15 g16 g17 r0 r1 r2 r3 = X
  refine bw_Q (fun Q hQ => ?_)
  have hinU : ∀ w ∈ wsX00, w ∈ wsX0_phase := fun w h => List.mem_cons_of_mem _ (List.mem_append_right _ h)
  unfold sX_phase at hX
  unfold bX_phase_0 at hX
  refine lv_aload_n hx hb dX0_phase_0 rfl (lv_at hl 0 rfl) ?_
  refine va_get (D := D) (ci := 0) (v := .int g4) (C := RX0) (T := TX0) (N := 18) hx hb hts hinU hown hK hP 0 rfl rfl 4 (by decide) (hts (.fieldLink RX0 33 "BloodCircuitChannels" "phase" "I") (by decide +kernel)) (fun _ h9 => h9) rfl dX0_phase_1 ?_
  subst hQ
  exact W.iret (v := g4) hx hb hr (fun t ht hW => ⟨⟨g4, (g4, g5, g6, g7, g8, g9, g10, g11, g12, g13, g14, g15, g16, g17, r0, r1, r2, r3), rfl, ⟨hX, rfl⟩, by rw [ht]; exact hP, va_K.moved hW.alike hK, hD⟩, hS.F ht⟩) hS.2.2 dX0_phase_4
abbrev rmX_alarms : Room := { frames := 0, cells := 0, slots := 0, locals := 0 }
set_option maxHeartbeats 4000000 in
set_option maxRecDepth 100000 in
theorem ctX_alarms (l : Launch) (D : va_G) (cI : ClassId) (h0 a0 a1 a2 a3 sz : Nat) (g4 g5 g6 g7 g8 g9 g10 g11 g12 g13 g14 g15 g16 g17 : Int32) (r0 r1 r2 r3 : Nat → Int32)   : Met l yX0_alarms wsX0_alarms rmX_alarms (va_Pc [.ref h0] (bw_pr D vwC2 [(cI, .int)] (wdX cI h0 a0 a1 a2 a3 g4 g5 g6 g7 g8 g9 g10 g11 g12 g13 g14 g15 g16 g17 r0 r1 r2 r3) sz (tbX (va_A (wdX cI h0 a0 a1 a2 a3 g4 g5 g6 g7 g8 g9 g10 g11 g12 g13 g14 g15 g16 g17 r0 r1 r2 r3) sz)))) (va_Qi (fun r u => r = sX_alarms g4 g5 g6 g7 g8 g9 g10 g11 g12 g13 g14 g15 g16 g17 r0 r1 r2 r3 ∧ u = (g4, g5, g6, g7, g8, g9, g10, g11, g12, g13, g14, g15, g16, g17, r0, r1, r2, r3)) (bw_at D vwC2 [(cI, .int)] (wfX cI h0 a0 a1 a2 a3) (va_A (wdX cI h0 a0 a1 a2 a3 g4 g5 g6 g7 g8 g9 g10 g11 g12 g13 g14 g15 g16 g17 r0 r1 r2 r3) sz)) (va_A (wdX cI h0 a0 a1 a2 a3 g4 g5 g6 g7 g8 g9 g10 g11 g12 g13 g14 g15 g16 g17 r0 r1 r2 r3) sz)) 0 0 (va_A (wdX cI h0 a0 a1 a2 a3 g4 g5 g6 g7 g8 g9 g10 g11 g12 g13 g14 g15 g16 g17 r0 r1 r2 r3) sz) := by
  refine Met.ofW (cc := cX0_alarms) (maxL := 1) (ret := (some .int)) (by decide) rfl ?_
  intro p e s m args below meth c s₁ B hml hv
  obtain ⟨rfl, hsz, hP, hK, hD0, hT⟩ := hv
  have hx := B.exec
  have hb := B.bytes
  have hr := B.returns
  have hts := atoms_spec (ws := wsX0_alarms) B.pre
  have hown : s.vm.findClass RX0 = some m.cls := findClass_of_methodNamed B.named
  have hlocks := B.notSynchronized
  subst hsz
  have hD := hD0.self (sz := s.heap.size)
  generalize hAe : va_A (wdX cI h0 a0 a1 a2 a3 g4 g5 g6 g7 g8 g9 g10 g11 g12 g13 g14 g15 g16 g17 r0 r1 r2 r3) s.heap.size = A at hD hT ⊢
  have hA : ∀ q : Nat, s.heap.size ≤ q → A q := fun q h => by rw [← hAe]; exact Or.inr h
  have hS : va_S A s.heap s.heap [] := va_S.rf
  have hl := lv_entry ([.ref h0]) (n := 1) (Nat.le_of_ble_eq_true rfl)
  rw [lg_entry_eq]
  generalize (lg_sl ([.ref h0]) ++ List.replicate (1 - (lg_sl ([.ref h0])).length) Slot.unset).toArray = ls at hl ⊢
  have hl : lv_has ls 1 [(0, .ref h0)] := hl
  generalize hX : sX_alarms g4 g5 g6 g7 g8 g9 g10 g11 g12 g13 g14 g15 g16 g17 r0 r1 r2 r3 = X
  refine bw_Q (fun Q hQ => ?_)
  have hinU : ∀ w ∈ wsX00, w ∈ wsX0_alarms := fun w h => List.mem_cons_of_mem _ (List.mem_append_right _ h)
  unfold sX_alarms at hX
  unfold bX_alarms_0 at hX
  refine lv_aload_n hx hb dX0_alarms_0 rfl (lv_at hl 0 rfl) ?_
  refine va_get (D := D) (ci := 0) (v := .int g5) (C := RX0) (T := TX0) (N := 18) hx hb hts hinU hown hK hP 0 rfl rfl 5 (by decide) (hts (.fieldLink RX0 65 "BloodCircuitChannels" "alarms" "I") (by decide +kernel)) (fun _ h9 => h9) rfl dX0_alarms_1 ?_
  subst hQ
  exact W.iret (v := g5) hx hb hr (fun t ht hW => ⟨⟨g5, (g4, g5, g6, g7, g8, g9, g10, g11, g12, g13, g14, g15, g16, g17, r0, r1, r2, r3), rfl, ⟨hX, rfl⟩, by rw [ht]; exact hP, va_K.moved hW.alike hK, hD⟩, hS.F ht⟩) hS.2.2 dX0_alarms_4
abbrev rmX_conditions : Room := { frames := 0, cells := 0, slots := 0, locals := 0 }
set_option maxHeartbeats 4000000 in
set_option maxRecDepth 100000 in
theorem ctX_conditions (l : Launch) (D : va_G) (cI : ClassId) (h0 a0 a1 a2 a3 sz : Nat) (g4 g5 g6 g7 g8 g9 g10 g11 g12 g13 g14 g15 g16 g17 : Int32) (r0 r1 r2 r3 : Nat → Int32)   : Met l yX0_conditions wsX0_conditions rmX_conditions (va_Pc [.ref h0] (bw_pr D vwC2 [(cI, .int)] (wdX cI h0 a0 a1 a2 a3 g4 g5 g6 g7 g8 g9 g10 g11 g12 g13 g14 g15 g16 g17 r0 r1 r2 r3) sz (tbX (va_A (wdX cI h0 a0 a1 a2 a3 g4 g5 g6 g7 g8 g9 g10 g11 g12 g13 g14 g15 g16 g17 r0 r1 r2 r3) sz)))) (va_Qi (fun r u => r = sX_conditions g4 g5 g6 g7 g8 g9 g10 g11 g12 g13 g14 g15 g16 g17 r0 r1 r2 r3 ∧ u = (g4, g5, g6, g7, g8, g9, g10, g11, g12, g13, g14, g15, g16, g17, r0, r1, r2, r3)) (bw_at D vwC2 [(cI, .int)] (wfX cI h0 a0 a1 a2 a3) (va_A (wdX cI h0 a0 a1 a2 a3 g4 g5 g6 g7 g8 g9 g10 g11 g12 g13 g14 g15 g16 g17 r0 r1 r2 r3) sz)) (va_A (wdX cI h0 a0 a1 a2 a3 g4 g5 g6 g7 g8 g9 g10 g11 g12 g13 g14 g15 g16 g17 r0 r1 r2 r3) sz)) 0 0 (va_A (wdX cI h0 a0 a1 a2 a3 g4 g5 g6 g7 g8 g9 g10 g11 g12 g13 g14 g15 g16 g17 r0 r1 r2 r3) sz) := by
  refine Met.ofW (cc := cX0_conditions) (maxL := 1) (ret := (some .int)) (by decide) rfl ?_
  intro p e s m args below meth c s₁ B hml hv
  obtain ⟨rfl, hsz, hP, hK, hD0, hT⟩ := hv
  have hx := B.exec
  have hb := B.bytes
  have hr := B.returns
  have hts := atoms_spec (ws := wsX0_conditions) B.pre
  have hown : s.vm.findClass RX0 = some m.cls := findClass_of_methodNamed B.named
  have hlocks := B.notSynchronized
  subst hsz
  have hD := hD0.self (sz := s.heap.size)
  generalize hAe : va_A (wdX cI h0 a0 a1 a2 a3 g4 g5 g6 g7 g8 g9 g10 g11 g12 g13 g14 g15 g16 g17 r0 r1 r2 r3) s.heap.size = A at hD hT ⊢
  have hA : ∀ q : Nat, s.heap.size ≤ q → A q := fun q h => by rw [← hAe]; exact Or.inr h
  have hS : va_S A s.heap s.heap [] := va_S.rf
  have hl := lv_entry ([.ref h0]) (n := 1) (Nat.le_of_ble_eq_true rfl)
  rw [lg_entry_eq]
  generalize (lg_sl ([.ref h0]) ++ List.replicate (1 - (lg_sl ([.ref h0])).length) Slot.unset).toArray = ls at hl ⊢
  have hl : lv_has ls 1 [(0, .ref h0)] := hl
  generalize hX : sX_conditions g4 g5 g6 g7 g8 g9 g10 g11 g12 g13 g14 g15 g16 g17 r0 r1 r2 r3 = X
  refine bw_Q (fun Q hQ => ?_)
  have hinU : ∀ w ∈ wsX00, w ∈ wsX0_conditions := fun w h => List.mem_cons_of_mem _ (List.mem_append_right _ h)
  unfold sX_conditions at hX
  unfold bX_conditions_0 at hX
  refine lv_aload_n hx hb dX0_conditions_0 rfl (lv_at hl 0 rfl) ?_
  refine va_get (D := D) (ci := 0) (v := .int g6) (C := RX0) (T := TX0) (N := 18) hx hb hts hinU hown hK hP 0 rfl rfl 6 (by decide) (hts (.fieldLink RX0 68 "BloodCircuitChannels" "conditions" "I") (by decide +kernel)) (fun _ h9 => h9) rfl dX0_conditions_1 ?_
  subst hQ
  exact W.iret (v := g6) hx hb hr (fun t ht hW => ⟨⟨g6, (g4, g5, g6, g7, g8, g9, g10, g11, g12, g13, g14, g15, g16, g17, r0, r1, r2, r3), rfl, ⟨hX, rfl⟩, by rw [ht]; exact hP, va_K.moved hW.alike hK, hD⟩, hS.F ht⟩) hS.2.2 dX0_conditions_4
abbrev rmX_outputs : Room := { frames := 0, cells := 0, slots := 0, locals := 0 }
set_option maxHeartbeats 4000000 in
set_option maxRecDepth 100000 in
theorem ctX_outputs (l : Launch) (D : va_G) (cI : ClassId) (h0 a0 a1 a2 a3 sz : Nat) (g4 g5 g6 g7 g8 g9 g10 g11 g12 g13 g14 g15 g16 g17 : Int32) (r0 r1 r2 r3 : Nat → Int32)   : Met l yX0_outputs wsX0_outputs rmX_outputs (va_Pc [.ref h0] (bw_pr D vwC2 [(cI, .int)] (wdX cI h0 a0 a1 a2 a3 g4 g5 g6 g7 g8 g9 g10 g11 g12 g13 g14 g15 g16 g17 r0 r1 r2 r3) sz (tbX (va_A (wdX cI h0 a0 a1 a2 a3 g4 g5 g6 g7 g8 g9 g10 g11 g12 g13 g14 g15 g16 g17 r0 r1 r2 r3) sz)))) (va_Qi (fun r u => r = sX_outputs g4 g5 g6 g7 g8 g9 g10 g11 g12 g13 g14 g15 g16 g17 r0 r1 r2 r3 ∧ u = (g4, g5, g6, g7, g8, g9, g10, g11, g12, g13, g14, g15, g16, g17, r0, r1, r2, r3)) (bw_at D vwC2 [(cI, .int)] (wfX cI h0 a0 a1 a2 a3) (va_A (wdX cI h0 a0 a1 a2 a3 g4 g5 g6 g7 g8 g9 g10 g11 g12 g13 g14 g15 g16 g17 r0 r1 r2 r3) sz)) (va_A (wdX cI h0 a0 a1 a2 a3 g4 g5 g6 g7 g8 g9 g10 g11 g12 g13 g14 g15 g16 g17 r0 r1 r2 r3) sz)) 0 0 (va_A (wdX cI h0 a0 a1 a2 a3 g4 g5 g6 g7 g8 g9 g10 g11 g12 g13 g14 g15 g16 g17 r0 r1 r2 r3) sz) := by
  refine Met.ofW (cc := cX0_outputs) (maxL := 1) (ret := (some .int)) (by decide) rfl ?_
  intro p e s m args below meth c s₁ B hml hv
  obtain ⟨rfl, hsz, hP, hK, hD0, hT⟩ := hv
  have hx := B.exec
  have hb := B.bytes
  have hr := B.returns
  have hts := atoms_spec (ws := wsX0_outputs) B.pre
  have hown : s.vm.findClass RX0 = some m.cls := findClass_of_methodNamed B.named
  have hlocks := B.notSynchronized
  subst hsz
  have hD := hD0.self (sz := s.heap.size)
  generalize hAe : va_A (wdX cI h0 a0 a1 a2 a3 g4 g5 g6 g7 g8 g9 g10 g11 g12 g13 g14 g15 g16 g17 r0 r1 r2 r3) s.heap.size = A at hD hT ⊢
  have hA : ∀ q : Nat, s.heap.size ≤ q → A q := fun q h => by rw [← hAe]; exact Or.inr h
  have hS : va_S A s.heap s.heap [] := va_S.rf
  have hl := lv_entry ([.ref h0]) (n := 1) (Nat.le_of_ble_eq_true rfl)
  rw [lg_entry_eq]
  generalize (lg_sl ([.ref h0]) ++ List.replicate (1 - (lg_sl ([.ref h0])).length) Slot.unset).toArray = ls at hl ⊢
  have hl : lv_has ls 1 [(0, .ref h0)] := hl
  generalize hX : sX_outputs g4 g5 g6 g7 g8 g9 g10 g11 g12 g13 g14 g15 g16 g17 r0 r1 r2 r3 = X
  refine bw_Q (fun Q hQ => ?_)
  have hinU : ∀ w ∈ wsX00, w ∈ wsX0_outputs := fun w h => List.mem_cons_of_mem _ (List.mem_append_right _ h)
  unfold sX_outputs at hX
  unfold bX_outputs_0 at hX
  refine lv_aload_n hx hb dX0_outputs_0 rfl (lv_at hl 0 rfl) ?_
  refine va_get (D := D) (ci := 0) (v := .int g7) (C := RX0) (T := TX0) (N := 18) hx hb hts hinU hown hK hP 0 rfl rfl 7 (by decide) (hts (.fieldLink RX0 74 "BloodCircuitChannels" "outputs" "I") (by decide +kernel)) (fun _ h9 => h9) rfl dX0_outputs_1 ?_
  subst hQ
  exact W.iret (v := g7) hx hb hr (fun t ht hW => ⟨⟨g7, (g4, g5, g6, g7, g8, g9, g10, g11, g12, g13, g14, g15, g16, g17, r0, r1, r2, r3), rfl, ⟨hX, rfl⟩, by rw [ht]; exact hP, va_K.moved hW.alike hK, hD⟩, hS.F ht⟩) hS.2.2 dX0_outputs_4
abbrev rmX_effective : Room := { frames := 0, cells := 0, slots := 0, locals := 0 }
set_option maxHeartbeats 4000000 in
set_option maxRecDepth 100000 in
theorem ctX_effective (l : Launch) (D : va_G) (cI : ClassId) (h0 a0 a1 a2 a3 sz : Nat) (g4 g5 g6 g7 g8 g9 g10 g11 g12 g13 g14 g15 g16 g17 : Int32) (r0 r1 r2 r3 : Nat → Int32)   : Met l yX0_effective wsX0_effective rmX_effective (va_Pc [.ref h0] (bw_pr D vwC2 [(cI, .int)] (wdX cI h0 a0 a1 a2 a3 g4 g5 g6 g7 g8 g9 g10 g11 g12 g13 g14 g15 g16 g17 r0 r1 r2 r3) sz (tbX (va_A (wdX cI h0 a0 a1 a2 a3 g4 g5 g6 g7 g8 g9 g10 g11 g12 g13 g14 g15 g16 g17 r0 r1 r2 r3) sz)))) (va_Qi (fun r u => r = sX_effective g4 g5 g6 g7 g8 g9 g10 g11 g12 g13 g14 g15 g16 g17 r0 r1 r2 r3 ∧ u = (g4, g5, g6, g7, g8, g9, g10, g11, g12, g13, g14, g15, g16, g17, r0, r1, r2, r3)) (bw_at D vwC2 [(cI, .int)] (wfX cI h0 a0 a1 a2 a3) (va_A (wdX cI h0 a0 a1 a2 a3 g4 g5 g6 g7 g8 g9 g10 g11 g12 g13 g14 g15 g16 g17 r0 r1 r2 r3) sz)) (va_A (wdX cI h0 a0 a1 a2 a3 g4 g5 g6 g7 g8 g9 g10 g11 g12 g13 g14 g15 g16 g17 r0 r1 r2 r3) sz)) 0 0 (va_A (wdX cI h0 a0 a1 a2 a3 g4 g5 g6 g7 g8 g9 g10 g11 g12 g13 g14 g15 g16 g17 r0 r1 r2 r3) sz) := by
  refine Met.ofW (cc := cX0_effective) (maxL := 1) (ret := (some .int)) (by decide) rfl ?_
  intro p e s m args below meth c s₁ B hml hv
  obtain ⟨rfl, hsz, hP, hK, hD0, hT⟩ := hv
  have hx := B.exec
  have hb := B.bytes
  have hr := B.returns
  have hts := atoms_spec (ws := wsX0_effective) B.pre
  have hown : s.vm.findClass RX0 = some m.cls := findClass_of_methodNamed B.named
  have hlocks := B.notSynchronized
  subst hsz
  have hD := hD0.self (sz := s.heap.size)
  generalize hAe : va_A (wdX cI h0 a0 a1 a2 a3 g4 g5 g6 g7 g8 g9 g10 g11 g12 g13 g14 g15 g16 g17 r0 r1 r2 r3) s.heap.size = A at hD hT ⊢
  have hA : ∀ q : Nat, s.heap.size ≤ q → A q := fun q h => by rw [← hAe]; exact Or.inr h
  have hS : va_S A s.heap s.heap [] := va_S.rf
  have hl := lv_entry ([.ref h0]) (n := 1) (Nat.le_of_ble_eq_true rfl)
  rw [lg_entry_eq]
  generalize (lg_sl ([.ref h0]) ++ List.replicate (1 - (lg_sl ([.ref h0])).length) Slot.unset).toArray = ls at hl ⊢
  have hl : lv_has ls 1 [(0, .ref h0)] := hl
  generalize hX : sX_effective g4 g5 g6 g7 g8 g9 g10 g11 g12 g13 g14 g15 g16 g17 r0 r1 r2 r3 = X
  refine bw_Q (fun Q hQ => ?_)
  have hinU : ∀ w ∈ wsX00, w ∈ wsX0_effective := fun w h => List.mem_cons_of_mem _ (List.mem_append_right _ h)
  unfold sX_effective at hX
  unfold bX_effective_0 at hX
  refine lv_aload_n hx hb dX0_effective_0 rfl (lv_at hl 0 rfl) ?_
  refine va_get (D := D) (ci := 0) (v := .int g9) (C := RX0) (T := TX0) (N := 18) hx hb hts hinU hown hK hP 0 rfl rfl 9 (by decide) (hts (.fieldLink RX0 77 "BloodCircuitChannels" "effective" "I") (by decide +kernel)) (fun _ h9 => h9) rfl dX0_effective_1 ?_
  subst hQ
  exact W.iret (v := g9) hx hb hr (fun t ht hW => ⟨⟨g9, (g4, g5, g6, g7, g8, g9, g10, g11, g12, g13, g14, g15, g16, g17, r0, r1, r2, r3), rfl, ⟨hX, rfl⟩, by rw [ht]; exact hP, va_K.moved hW.alike hK, hD⟩, hS.F ht⟩) hS.2.2 dX0_effective_4
abbrev rmX_accounted : Room := { frames := 0, cells := 0, slots := 0, locals := 0 }
set_option maxHeartbeats 4000000 in
set_option maxRecDepth 100000 in
theorem ctX_accounted (l : Launch) (D : va_G) (cI : ClassId) (h0 a0 a1 a2 a3 sz : Nat) (g4 g5 g6 g7 g8 g9 g10 g11 g12 g13 g14 g15 g16 g17 : Int32) (r0 r1 r2 r3 : Nat → Int32)   : Met l yX0_accounted wsX0_accounted rmX_accounted (va_Pc [.ref h0] (bw_pr D vwC2 [(cI, .int)] (wdX cI h0 a0 a1 a2 a3 g4 g5 g6 g7 g8 g9 g10 g11 g12 g13 g14 g15 g16 g17 r0 r1 r2 r3) sz (tbX (va_A (wdX cI h0 a0 a1 a2 a3 g4 g5 g6 g7 g8 g9 g10 g11 g12 g13 g14 g15 g16 g17 r0 r1 r2 r3) sz)))) (va_Qi (fun r u => r = sX_accounted g4 g5 g6 g7 g8 g9 g10 g11 g12 g13 g14 g15 g16 g17 r0 r1 r2 r3 ∧ u = (g4, g5, g6, g7, g8, g9, g10, g11, g12, g13, g14, g15, g16, g17, r0, r1, r2, r3)) (bw_at D vwC2 [(cI, .int)] (wfX cI h0 a0 a1 a2 a3) (va_A (wdX cI h0 a0 a1 a2 a3 g4 g5 g6 g7 g8 g9 g10 g11 g12 g13 g14 g15 g16 g17 r0 r1 r2 r3) sz)) (va_A (wdX cI h0 a0 a1 a2 a3 g4 g5 g6 g7 g8 g9 g10 g11 g12 g13 g14 g15 g16 g17 r0 r1 r2 r3) sz)) 0 0 (va_A (wdX cI h0 a0 a1 a2 a3 g4 g5 g6 g7 g8 g9 g10 g11 g12 g13 g14 g15 g16 g17 r0 r1 r2 r3) sz) := by
  refine Met.ofW (cc := cX0_accounted) (maxL := 1) (ret := (some .int)) (by decide) rfl ?_
  intro p e s m args below meth c s₁ B hml hv
  obtain ⟨rfl, hsz, hP, hK, hD0, hT⟩ := hv
  have hx := B.exec
  have hb := B.bytes
  have hr := B.returns
  have hts := atoms_spec (ws := wsX0_accounted) B.pre
  have hown : s.vm.findClass RX0 = some m.cls := findClass_of_methodNamed B.named
  have hlocks := B.notSynchronized
  subst hsz
  have hD := hD0.self (sz := s.heap.size)
  generalize hAe : va_A (wdX cI h0 a0 a1 a2 a3 g4 g5 g6 g7 g8 g9 g10 g11 g12 g13 g14 g15 g16 g17 r0 r1 r2 r3) s.heap.size = A at hD hT ⊢
  have hA : ∀ q : Nat, s.heap.size ≤ q → A q := fun q h => by rw [← hAe]; exact Or.inr h
  have hS : va_S A s.heap s.heap [] := va_S.rf
  have hl := lv_entry ([.ref h0]) (n := 1) (Nat.le_of_ble_eq_true rfl)
  rw [lg_entry_eq]
  generalize (lg_sl ([.ref h0]) ++ List.replicate (1 - (lg_sl ([.ref h0])).length) Slot.unset).toArray = ls at hl ⊢
  have hl : lv_has ls 1 [(0, .ref h0)] := hl
  generalize hX : sX_accounted g4 g5 g6 g7 g8 g9 g10 g11 g12 g13 g14 g15 g16 g17 r0 r1 r2 r3 = X
  refine bw_Q (fun Q hQ => ?_)
  have hinU : ∀ w ∈ wsX00, w ∈ wsX0_accounted := fun w h => List.mem_cons_of_mem _ (List.mem_append_right _ h)
  unfold sX_accounted at hX
  unfold bX_accounted_0 at hX
  refine lv_aload_n hx hb dX0_accounted_0 rfl (lv_at hl 0 rfl) ?_
  refine va_get (D := D) (ci := 0) (v := .int g10) (C := RX0) (T := TX0) (N := 18) hx hb hts hinU hown hK hP 0 rfl rfl 10 (by decide) (hts (.fieldLink RX0 80 "BloodCircuitChannels" "accounted" "I") (by decide +kernel)) (fun _ h9 => h9) rfl dX0_accounted_1 ?_
  subst hQ
  exact W.iret (v := g10) hx hb hr (fun t ht hW => ⟨⟨g10, (g4, g5, g6, g7, g8, g9, g10, g11, g12, g13, g14, g15, g16, g17, r0, r1, r2, r3), rfl, ⟨hX, rfl⟩, by rw [ht]; exact hP, va_K.moved hW.alike hK, hD⟩, hS.F ht⟩) hS.2.2 dX0_accounted_4
abbrev rmX_strokes : Room := { frames := 0, cells := 0, slots := 0, locals := 0 }
set_option maxHeartbeats 4000000 in
set_option maxRecDepth 100000 in
theorem ctX_strokes (l : Launch) (D : va_G) (cI : ClassId) (h0 a0 a1 a2 a3 sz : Nat) (g4 g5 g6 g7 g8 g9 g10 g11 g12 g13 g14 g15 g16 g17 : Int32) (r0 r1 r2 r3 : Nat → Int32)   : Met l yX0_strokes wsX0_strokes rmX_strokes (va_Pc [.ref h0] (bw_pr D vwC2 [(cI, .int)] (wdX cI h0 a0 a1 a2 a3 g4 g5 g6 g7 g8 g9 g10 g11 g12 g13 g14 g15 g16 g17 r0 r1 r2 r3) sz (tbX (va_A (wdX cI h0 a0 a1 a2 a3 g4 g5 g6 g7 g8 g9 g10 g11 g12 g13 g14 g15 g16 g17 r0 r1 r2 r3) sz)))) (va_Qi (fun r u => r = sX_strokes g4 g5 g6 g7 g8 g9 g10 g11 g12 g13 g14 g15 g16 g17 r0 r1 r2 r3 ∧ u = (g4, g5, g6, g7, g8, g9, g10, g11, g12, g13, g14, g15, g16, g17, r0, r1, r2, r3)) (bw_at D vwC2 [(cI, .int)] (wfX cI h0 a0 a1 a2 a3) (va_A (wdX cI h0 a0 a1 a2 a3 g4 g5 g6 g7 g8 g9 g10 g11 g12 g13 g14 g15 g16 g17 r0 r1 r2 r3) sz)) (va_A (wdX cI h0 a0 a1 a2 a3 g4 g5 g6 g7 g8 g9 g10 g11 g12 g13 g14 g15 g16 g17 r0 r1 r2 r3) sz)) 0 0 (va_A (wdX cI h0 a0 a1 a2 a3 g4 g5 g6 g7 g8 g9 g10 g11 g12 g13 g14 g15 g16 g17 r0 r1 r2 r3) sz) := by
  refine Met.ofW (cc := cX0_strokes) (maxL := 1) (ret := (some .int)) (by decide) rfl ?_
  intro p e s m args below meth c s₁ B hml hv
  obtain ⟨rfl, hsz, hP, hK, hD0, hT⟩ := hv
  have hx := B.exec
  have hb := B.bytes
  have hr := B.returns
  have hts := atoms_spec (ws := wsX0_strokes) B.pre
  have hown : s.vm.findClass RX0 = some m.cls := findClass_of_methodNamed B.named
  have hlocks := B.notSynchronized
  subst hsz
  have hD := hD0.self (sz := s.heap.size)
  generalize hAe : va_A (wdX cI h0 a0 a1 a2 a3 g4 g5 g6 g7 g8 g9 g10 g11 g12 g13 g14 g15 g16 g17 r0 r1 r2 r3) s.heap.size = A at hD hT ⊢
  have hA : ∀ q : Nat, s.heap.size ≤ q → A q := fun q h => by rw [← hAe]; exact Or.inr h
  have hS : va_S A s.heap s.heap [] := va_S.rf
  have hl := lv_entry ([.ref h0]) (n := 1) (Nat.le_of_ble_eq_true rfl)
  rw [lg_entry_eq]
  generalize (lg_sl ([.ref h0]) ++ List.replicate (1 - (lg_sl ([.ref h0])).length) Slot.unset).toArray = ls at hl ⊢
  have hl : lv_has ls 1 [(0, .ref h0)] := hl
  generalize hX : sX_strokes g4 g5 g6 g7 g8 g9 g10 g11 g12 g13 g14 g15 g16 g17 r0 r1 r2 r3 = X
  refine bw_Q (fun Q hQ => ?_)
  have hinU : ∀ w ∈ wsX00, w ∈ wsX0_strokes := fun w h => List.mem_cons_of_mem _ (List.mem_append_right _ h)
  unfold sX_strokes at hX
  unfold bX_strokes_0 at hX
  refine lv_aload_n hx hb dX0_strokes_0 rfl (lv_at hl 0 rfl) ?_
  refine va_get (D := D) (ci := 0) (v := .int g11) (C := RX0) (T := TX0) (N := 18) hx hb hts hinU hown hK hP 0 rfl rfl 11 (by decide) (hts (.fieldLink RX0 83 "BloodCircuitChannels" "strokes" "I") (by decide +kernel)) (fun _ h9 => h9) rfl dX0_strokes_1 ?_
  subst hQ
  exact W.iret (v := g11) hx hb hr (fun t ht hW => ⟨⟨g11, (g4, g5, g6, g7, g8, g9, g10, g11, g12, g13, g14, g15, g16, g17, r0, r1, r2, r3), rfl, ⟨hX, rfl⟩, by rw [ht]; exact hP, va_K.moved hW.alike hK, hD⟩, hS.F ht⟩) hS.2.2 dX0_strokes_4
abbrev rmX_trips : Room := { frames := 0, cells := 0, slots := 0, locals := 0 }
set_option maxHeartbeats 4000000 in
set_option maxRecDepth 100000 in
theorem ctX_trips (l : Launch) (D : va_G) (cI : ClassId) (h0 a0 a1 a2 a3 sz : Nat) (g4 g5 g6 g7 g8 g9 g10 g11 g12 g13 g14 g15 g16 g17 : Int32) (r0 r1 r2 r3 : Nat → Int32)   : Met l yX0_trips wsX0_trips rmX_trips (va_Pc [.ref h0] (bw_pr D vwC2 [(cI, .int)] (wdX cI h0 a0 a1 a2 a3 g4 g5 g6 g7 g8 g9 g10 g11 g12 g13 g14 g15 g16 g17 r0 r1 r2 r3) sz (tbX (va_A (wdX cI h0 a0 a1 a2 a3 g4 g5 g6 g7 g8 g9 g10 g11 g12 g13 g14 g15 g16 g17 r0 r1 r2 r3) sz)))) (va_Qi (fun r u => r = sX_trips g4 g5 g6 g7 g8 g9 g10 g11 g12 g13 g14 g15 g16 g17 r0 r1 r2 r3 ∧ u = (g4, g5, g6, g7, g8, g9, g10, g11, g12, g13, g14, g15, g16, g17, r0, r1, r2, r3)) (bw_at D vwC2 [(cI, .int)] (wfX cI h0 a0 a1 a2 a3) (va_A (wdX cI h0 a0 a1 a2 a3 g4 g5 g6 g7 g8 g9 g10 g11 g12 g13 g14 g15 g16 g17 r0 r1 r2 r3) sz)) (va_A (wdX cI h0 a0 a1 a2 a3 g4 g5 g6 g7 g8 g9 g10 g11 g12 g13 g14 g15 g16 g17 r0 r1 r2 r3) sz)) 0 0 (va_A (wdX cI h0 a0 a1 a2 a3 g4 g5 g6 g7 g8 g9 g10 g11 g12 g13 g14 g15 g16 g17 r0 r1 r2 r3) sz) := by
  refine Met.ofW (cc := cX0_trips) (maxL := 1) (ret := (some .int)) (by decide) rfl ?_
  intro p e s m args below meth c s₁ B hml hv
  obtain ⟨rfl, hsz, hP, hK, hD0, hT⟩ := hv
  have hx := B.exec
  have hb := B.bytes
  have hr := B.returns
  have hts := atoms_spec (ws := wsX0_trips) B.pre
  have hown : s.vm.findClass RX0 = some m.cls := findClass_of_methodNamed B.named
  have hlocks := B.notSynchronized
  subst hsz
  have hD := hD0.self (sz := s.heap.size)
  generalize hAe : va_A (wdX cI h0 a0 a1 a2 a3 g4 g5 g6 g7 g8 g9 g10 g11 g12 g13 g14 g15 g16 g17 r0 r1 r2 r3) s.heap.size = A at hD hT ⊢
  have hA : ∀ q : Nat, s.heap.size ≤ q → A q := fun q h => by rw [← hAe]; exact Or.inr h
  have hS : va_S A s.heap s.heap [] := va_S.rf
  have hl := lv_entry ([.ref h0]) (n := 1) (Nat.le_of_ble_eq_true rfl)
  rw [lg_entry_eq]
  generalize (lg_sl ([.ref h0]) ++ List.replicate (1 - (lg_sl ([.ref h0])).length) Slot.unset).toArray = ls at hl ⊢
  have hl : lv_has ls 1 [(0, .ref h0)] := hl
  generalize hX : sX_trips g4 g5 g6 g7 g8 g9 g10 g11 g12 g13 g14 g15 g16 g17 r0 r1 r2 r3 = X
  refine bw_Q (fun Q hQ => ?_)
  have hinU : ∀ w ∈ wsX00, w ∈ wsX0_trips := fun w h => List.mem_cons_of_mem _ (List.mem_append_right _ h)
  unfold sX_trips at hX
  unfold bX_trips_0 at hX
  refine lv_aload_n hx hb dX0_trips_0 rfl (lv_at hl 0 rfl) ?_
  refine va_get (D := D) (ci := 0) (v := .int g12) (C := RX0) (T := TX0) (N := 18) hx hb hts hinU hown hK hP 0 rfl rfl 12 (by decide) (hts (.fieldLink RX0 86 "BloodCircuitChannels" "trips" "I") (by decide +kernel)) (fun _ h9 => h9) rfl dX0_trips_1 ?_
  subst hQ
  exact W.iret (v := g12) hx hb hr (fun t ht hW => ⟨⟨g12, (g4, g5, g6, g7, g8, g9, g10, g11, g12, g13, g14, g15, g16, g17, r0, r1, r2, r3), rfl, ⟨hX, rfl⟩, by rw [ht]; exact hP, va_K.moved hW.alike hK, hD⟩, hS.F ht⟩) hS.2.2 dX0_trips_4
abbrev rmX_counted : Room := { frames := 0, cells := 0, slots := 0, locals := 0 }
set_option maxHeartbeats 4000000 in
set_option maxRecDepth 100000 in
theorem ctX_counted (l : Launch) (D : va_G) (cI : ClassId) (h0 a0 a1 a2 a3 sz : Nat) (g4 g5 g6 g7 g8 g9 g10 g11 g12 g13 g14 g15 g16 g17 : Int32) (r0 r1 r2 r3 : Nat → Int32)   : Met l yX0_counted wsX0_counted rmX_counted (va_Pc [.ref h0] (bw_pr D vwC2 [(cI, .int)] (wdX cI h0 a0 a1 a2 a3 g4 g5 g6 g7 g8 g9 g10 g11 g12 g13 g14 g15 g16 g17 r0 r1 r2 r3) sz (tbX (va_A (wdX cI h0 a0 a1 a2 a3 g4 g5 g6 g7 g8 g9 g10 g11 g12 g13 g14 g15 g16 g17 r0 r1 r2 r3) sz)))) (va_Qi (fun r u => r = sX_counted g4 g5 g6 g7 g8 g9 g10 g11 g12 g13 g14 g15 g16 g17 r0 r1 r2 r3 ∧ u = (g4, g5, g6, g7, g8, g9, g10, g11, g12, g13, g14, g15, g16, g17, r0, r1, r2, r3)) (bw_at D vwC2 [(cI, .int)] (wfX cI h0 a0 a1 a2 a3) (va_A (wdX cI h0 a0 a1 a2 a3 g4 g5 g6 g7 g8 g9 g10 g11 g12 g13 g14 g15 g16 g17 r0 r1 r2 r3) sz)) (va_A (wdX cI h0 a0 a1 a2 a3 g4 g5 g6 g7 g8 g9 g10 g11 g12 g13 g14 g15 g16 g17 r0 r1 r2 r3) sz)) 0 0 (va_A (wdX cI h0 a0 a1 a2 a3 g4 g5 g6 g7 g8 g9 g10 g11 g12 g13 g14 g15 g16 g17 r0 r1 r2 r3) sz) := by
  refine Met.ofW (cc := cX0_counted) (maxL := 1) (ret := (some .int)) (by decide) rfl ?_
  intro p e s m args below meth c s₁ B hml hv
  obtain ⟨rfl, hsz, hP, hK, hD0, hT⟩ := hv
  have hx := B.exec
  have hb := B.bytes
  have hr := B.returns
  have hts := atoms_spec (ws := wsX0_counted) B.pre
  have hown : s.vm.findClass RX0 = some m.cls := findClass_of_methodNamed B.named
  have hlocks := B.notSynchronized
  subst hsz
  have hD := hD0.self (sz := s.heap.size)
  generalize hAe : va_A (wdX cI h0 a0 a1 a2 a3 g4 g5 g6 g7 g8 g9 g10 g11 g12 g13 g14 g15 g16 g17 r0 r1 r2 r3) s.heap.size = A at hD hT ⊢
  have hA : ∀ q : Nat, s.heap.size ≤ q → A q := fun q h => by rw [← hAe]; exact Or.inr h
  have hS : va_S A s.heap s.heap [] := va_S.rf
  have hl := lv_entry ([.ref h0]) (n := 1) (Nat.le_of_ble_eq_true rfl)
  rw [lg_entry_eq]
  generalize (lg_sl ([.ref h0]) ++ List.replicate (1 - (lg_sl ([.ref h0])).length) Slot.unset).toArray = ls at hl ⊢
  have hl : lv_has ls 1 [(0, .ref h0)] := hl
  generalize hX : sX_counted g4 g5 g6 g7 g8 g9 g10 g11 g12 g13 g14 g15 g16 g17 r0 r1 r2 r3 = X
  refine bw_Q (fun Q hQ => ?_)
  have hinU : ∀ w ∈ wsX00, w ∈ wsX0_counted := fun w h => List.mem_cons_of_mem _ (List.mem_append_right _ h)
  unfold sX_counted at hX
  unfold bX_counted_0 at hX
  refine lv_aload_n hx hb dX0_counted_0 rfl (lv_at hl 0 rfl) ?_
  refine va_get (D := D) (ci := 0) (v := .int g13) (C := RX0) (T := TX0) (N := 18) hx hb hts hinU hown hK hP 0 rfl rfl 13 (by decide) (hts (.fieldLink RX0 89 "BloodCircuitChannels" "counted" "I") (by decide +kernel)) (fun _ h9 => h9) rfl dX0_counted_1 ?_
  subst hQ
  exact W.iret (v := g13) hx hb hr (fun t ht hW => ⟨⟨g13, (g4, g5, g6, g7, g8, g9, g10, g11, g12, g13, g14, g15, g16, g17, r0, r1, r2, r3), rfl, ⟨hX, rfl⟩, by rw [ht]; exact hP, va_K.moved hW.alike hK, hD⟩, hS.F ht⟩) hS.2.2 dX0_counted_4
abbrev rmX_steady : Room := { frames := 0, cells := 0, slots := 0, locals := 0 }
set_option maxHeartbeats 4000000 in
set_option maxRecDepth 100000 in
theorem ctX_steady (l : Launch) (D : va_G) (cI : ClassId) (h0 a0 a1 a2 a3 sz : Nat) (g4 g5 g6 g7 g8 g9 g10 g11 g12 g13 g14 g15 g16 g17 : Int32) (r0 r1 r2 r3 : Nat → Int32)   : Met l yX0_steady wsX0_steady rmX_steady (va_Pc [.ref h0] (bw_pr D vwC2 [(cI, .int)] (wdX cI h0 a0 a1 a2 a3 g4 g5 g6 g7 g8 g9 g10 g11 g12 g13 g14 g15 g16 g17 r0 r1 r2 r3) sz (tbX (va_A (wdX cI h0 a0 a1 a2 a3 g4 g5 g6 g7 g8 g9 g10 g11 g12 g13 g14 g15 g16 g17 r0 r1 r2 r3) sz)))) (va_Qi (fun r u => r = sX_steady g4 g5 g6 g7 g8 g9 g10 g11 g12 g13 g14 g15 g16 g17 r0 r1 r2 r3 ∧ u = (g4, g5, g6, g7, g8, g9, g10, g11, g12, g13, g14, g15, g16, g17, r0, r1, r2, r3)) (bw_at D vwC2 [(cI, .int)] (wfX cI h0 a0 a1 a2 a3) (va_A (wdX cI h0 a0 a1 a2 a3 g4 g5 g6 g7 g8 g9 g10 g11 g12 g13 g14 g15 g16 g17 r0 r1 r2 r3) sz)) (va_A (wdX cI h0 a0 a1 a2 a3 g4 g5 g6 g7 g8 g9 g10 g11 g12 g13 g14 g15 g16 g17 r0 r1 r2 r3) sz)) 0 0 (va_A (wdX cI h0 a0 a1 a2 a3 g4 g5 g6 g7 g8 g9 g10 g11 g12 g13 g14 g15 g16 g17 r0 r1 r2 r3) sz) := by
  refine Met.ofW (cc := cX0_steady) (maxL := 1) (ret := (some .int)) (by decide) rfl ?_
  intro p e s m args below meth c s₁ B hml hv
  obtain ⟨rfl, hsz, hP, hK, hD0, hT⟩ := hv
  have hx := B.exec
  have hb := B.bytes
  have hr := B.returns
  have hts := atoms_spec (ws := wsX0_steady) B.pre
  have hown : s.vm.findClass RX0 = some m.cls := findClass_of_methodNamed B.named
  have hlocks := B.notSynchronized
  subst hsz
  have hD := hD0.self (sz := s.heap.size)
  generalize hAe : va_A (wdX cI h0 a0 a1 a2 a3 g4 g5 g6 g7 g8 g9 g10 g11 g12 g13 g14 g15 g16 g17 r0 r1 r2 r3) s.heap.size = A at hD hT ⊢
  have hA : ∀ q : Nat, s.heap.size ≤ q → A q := fun q h => by rw [← hAe]; exact Or.inr h
  have hS : va_S A s.heap s.heap [] := va_S.rf
  have hl := lv_entry ([.ref h0]) (n := 1) (Nat.le_of_ble_eq_true rfl)
  rw [lg_entry_eq]
  generalize (lg_sl ([.ref h0]) ++ List.replicate (1 - (lg_sl ([.ref h0])).length) Slot.unset).toArray = ls at hl ⊢
  have hl : lv_has ls 1 [(0, .ref h0)] := hl
  generalize hX : sX_steady g4 g5 g6 g7 g8 g9 g10 g11 g12 g13 g14 g15 g16 g17 r0 r1 r2 r3 = X
  refine bw_Q (fun Q hQ => ?_)
  have hinU : ∀ w ∈ wsX00, w ∈ wsX0_steady := fun w h => List.mem_cons_of_mem _ (List.mem_append_right _ h)
  unfold sX_steady at hX
  unfold bX_steady_0 at hX
  refine lv_aload_n hx hb dX0_steady_0 rfl (lv_at hl 0 rfl) ?_
  refine va_get (D := D) (ci := 0) (v := .int g14) (C := RX0) (T := TX0) (N := 18) hx hb hts hinU hown hK hP 0 rfl rfl 14 (by decide) (hts (.fieldLink RX0 92 "BloodCircuitChannels" "steadyTicks" "I") (by decide +kernel)) (fun _ h9 => h9) rfl dX0_steady_1 ?_
  subst hQ
  exact W.iret (v := g14) hx hb hr (fun t ht hW => ⟨⟨g14, (g4, g5, g6, g7, g8, g9, g10, g11, g12, g13, g14, g15, g16, g17, r0, r1, r2, r3), rfl, ⟨hX, rfl⟩, by rw [ht]; exact hP, va_K.moved hW.alike hK, hD⟩, hS.F ht⟩) hS.2.2 dX0_steady_4
