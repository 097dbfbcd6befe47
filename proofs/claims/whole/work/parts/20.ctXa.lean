abbrev rmX_isParameter : Room := { frames := 0, cells := 0, slots := 0, locals := 0 }
set_option maxHeartbeats 4000000 in
set_option maxRecDepth 100000 in
theorem ctX_isParameter (l : Launch) (sz : Nat) (k1 : Int32) : Met l yX0_isParameter wsX0_isParameter rmX_isParameter (va_Pc [.int k1] (fun U => U.heap.size = sz)) (va_Qi (fun r (_ : Unit) => r = sX_isParameter k1) (fun _ _ => True) (va_A [] sz)) 0 0 (va_A [] sz) := by
  refine Met.ofW (cc := cX0_isParameter) (maxL := 1) (ret := (some .boolean)) (by decide) rfl ?_
  intro p e s m args below meth c s₁ B hml hv
  obtain ⟨rfl, hsz⟩ := hv
  have hx := B.exec
  have hb := B.bytes
  have hr := B.returns
  have hts := atoms_spec (ws := wsX0_isParameter) B.pre
  have hown : s.vm.findClass RX0 = some m.cls := findClass_of_methodNamed B.named
  have hlocks := B.notSynchronized
  subst hsz
  generalize hAe : va_A [] s.heap.size = A
  have hA : ∀ q : Nat, s.heap.size ≤ q → A q := fun q h => by rw [← hAe]; exact Or.inr h
  have hS : va_S A s.heap s.heap [] := va_S.rf
  have hl := lv_entry ([.int k1]) (n := 1) (Nat.le_of_ble_eq_true rfl)
  rw [lg_entry_eq]
  generalize (lg_sl ([.int k1]) ++ List.replicate (1 - (lg_sl ([.int k1])).length) Slot.unset).toArray = ls at hl ⊢
  have hl : lv_has ls 1 [(0, .int k1)] := hl
  generalize hX : sX_isParameter k1 = X
  refine bw_Q (fun Q hQ => ?_)
  have J14 : ∀  (ls : Array Slot), lv_has ls 1 [] → bX_isParameter_14 = X → W p l e (headSpec wsX0_isParameter rmX_isParameter).room s m ([.int k1] : List Value).toArray below meth c s.heap [] 0 0 Q (F0 m 14 ls []) := by
    intro  ls hl hX
    unfold bX_isParameter_14 at hX
    refine lv_iconst (v := 0) hx hb dX0_isParameter_14 (by decide +kernel) ?_
    subst hQ
    exact W.zret (ty := .boolean) (v := 0) hx hb hr (by decide +kernel) (fun t ht hW => ⟨⟨0, (), rfl, hX, trivial⟩, hS.F ht⟩) hS.2.2 dX0_isParameter_15
  unfold sX_isParameter at hX
  unfold bX_isParameter_0 at hX
  refine lv_iload_n hx hb dX0_isParameter_0 rfl (lv_at hl 0 rfl) ?_
  refine lv_if_lt (tgt := 14) hx hb dX0_isParameter_1 (by decide) (fun hc1 => ?_) (fun hc1 => ?_)
  · rw [if_pos hc1] at hX
    exact J14  ls (lv_sub hl [] rfl) hX
  · rw [if_neg hc1] at hX
    unfold bX_isParameter_4 at hX
    refine lv_iload_n hx hb dX0_isParameter_4 rfl (lv_at hl 0 rfl) ?_
    refine lv_bipush (v := 10) hx hb dX0_isParameter_5 (by decide +kernel) ?_
    refine lv_icmp_ge (tgt := 14) hx hb dX0_isParameter_7 (by decide) (fun hc7 => ?_) (fun hc7 => ?_)
    · rw [if_pos hc7] at hX
      exact J14  ls (lv_sub hl [] rfl) hX
    · rw [if_neg hc7] at hX
      unfold bX_isParameter_10 at hX
      refine lv_iconst (v := 1) hx hb dX0_isParameter_10 (by decide +kernel) ?_
      refine lv_goto (tgt := 15) hx hb dX0_isParameter_11 (by decide) ?_
      subst hQ
      exact W.zret (ty := .boolean) (v := 1) hx hb hr (by decide +kernel) (fun t ht hW => ⟨⟨1, (), rfl, hX, trivial⟩, hS.F ht⟩) hS.2.2 dX0_isParameter_15
abbrev rmX_isOutside : Room := { frames := 0, cells := 0, slots := 0, locals := 0 }
set_option maxHeartbeats 4000000 in
set_option maxRecDepth 100000 in
theorem ctX_isOutside (l : Launch) (sz : Nat) (k1 k2 k3 : Int32) : Met l yX0_isOutside wsX0_isOutside rmX_isOutside (va_Pc [.int k1, .int k2, .int k3] (fun U => U.heap.size = sz)) (va_Qi (fun r (_ : Unit) => r = sX_isOutside k1 k2 k3) (fun _ _ => True) (va_A [] sz)) 0 0 (va_A [] sz) := by
  refine Met.ofW (cc := cX0_isOutside) (maxL := 3) (ret := (some .boolean)) (by decide) rfl ?_
  intro p e s m args below meth c s₁ B hml hv
  obtain ⟨rfl, hsz⟩ := hv
  have hx := B.exec
  have hb := B.bytes
  have hr := B.returns
  have hts := atoms_spec (ws := wsX0_isOutside) B.pre
  have hown : s.vm.findClass RX0 = some m.cls := findClass_of_methodNamed B.named
  have hlocks := B.notSynchronized
  subst hsz
  generalize hAe : va_A [] s.heap.size = A
  have hA : ∀ q : Nat, s.heap.size ≤ q → A q := fun q h => by rw [← hAe]; exact Or.inr h
  have hS : va_S A s.heap s.heap [] := va_S.rf
  have hl := lv_entry ([.int k1, .int k2, .int k3]) (n := 3) (Nat.le_of_ble_eq_true rfl)
  rw [lg_entry_eq]
  generalize (lg_sl ([.int k1, .int k2, .int k3]) ++ List.replicate (3 - (lg_sl ([.int k1, .int k2, .int k3])).length) Slot.unset).toArray = ls at hl ⊢
  have hl : lv_has ls 3 [(0, .int k1), (1, .int k2), (2, .int k3)] := hl
  generalize hX : sX_isOutside k1 k2 k3 = X
  refine bw_Q (fun Q hQ => ?_)
  have J10 : ∀  (ls : Array Slot), lv_has ls 3 [] → bX_isOutside_10 = X → W p l e (headSpec wsX0_isOutside rmX_isOutside).room s m ([.int k1, .int k2, .int k3] : List Value).toArray below meth c s.heap [] 0 0 Q (F0 m 10 ls []) := by
    intro  ls hl hX
    unfold bX_isOutside_10 at hX
    refine lv_iconst (v := 1) hx hb dX0_isOutside_10 (by decide +kernel) ?_
    refine lv_goto (tgt := 15) hx hb dX0_isOutside_11 (by decide) ?_
    subst hQ
    exact W.zret (ty := .boolean) (v := 1) hx hb hr (by decide +kernel) (fun t ht hW => ⟨⟨1, (), rfl, hX, trivial⟩, hS.F ht⟩) hS.2.2 dX0_isOutside_15
  unfold sX_isOutside at hX
  unfold bX_isOutside_0 at hX
  refine lv_iload_n hx hb dX0_isOutside_0 rfl (lv_at hl 0 rfl) ?_
  refine lv_iload_n hx hb dX0_isOutside_1 rfl (lv_at hl 1 rfl) ?_
  refine lv_icmp_lt (tgt := 10) hx hb dX0_isOutside_2 (by decide) (fun hc2 => ?_) (fun hc2 => ?_)
  · rw [if_pos hc2] at hX
    exact J10  ls (lv_sub hl [] rfl) hX
  · rw [if_neg hc2] at hX
    unfold bX_isOutside_5 at hX
    refine lv_iload_n hx hb dX0_isOutside_5 rfl (lv_at hl 0 rfl) ?_
    refine lv_iload_n hx hb dX0_isOutside_6 rfl (lv_at hl 2 rfl) ?_
    refine lv_icmp_le (tgt := 14) hx hb dX0_isOutside_7 (by decide) (fun hc7 => ?_) (fun hc7 => ?_)
    · rw [if_pos hc7] at hX
      unfold bX_isOutside_14 at hX
      refine lv_iconst (v := 0) hx hb dX0_isOutside_14 (by decide +kernel) ?_
      subst hQ
      exact W.zret (ty := .boolean) (v := 0) hx hb hr (by decide +kernel) (fun t ht hW => ⟨⟨0, (), rfl, hX, trivial⟩, hS.F ht⟩) hS.2.2 dX0_isOutside_15
    · rw [if_neg hc7] at hX
      exact J10  ls (lv_sub hl [] rfl) hX
abbrev rmX_isSensor : Room := { frames := 0, cells := 0, slots := 0, locals := 0 }
set_option maxHeartbeats 4000000 in
set_option maxRecDepth 100000 in
theorem ctX_isSensor (l : Launch) (sz : Nat) (k1 : Int32) : Met l yX0_isSensor wsX0_isSensor rmX_isSensor (va_Pc [.int k1] (fun U => U.heap.size = sz)) (va_Qi (fun r (_ : Unit) => r = sX_isSensor k1) (fun _ _ => True) (va_A [] sz)) 0 0 (va_A [] sz) := by
  refine Met.ofW (cc := cX0_isSensor) (maxL := 1) (ret := (some .boolean)) (by decide) rfl ?_
  intro p e s m args below meth c s₁ B hml hv
  obtain ⟨rfl, hsz⟩ := hv
  have hx := B.exec
  have hb := B.bytes
  have hr := B.returns
  have hts := atoms_spec (ws := wsX0_isSensor) B.pre
  have hown : s.vm.findClass RX0 = some m.cls := findClass_of_methodNamed B.named
  have hlocks := B.notSynchronized
  subst hsz
  generalize hAe : va_A [] s.heap.size = A
  have hA : ∀ q : Nat, s.heap.size ≤ q → A q := fun q h => by rw [← hAe]; exact Or.inr h
  have hS : va_S A s.heap s.heap [] := va_S.rf
  have hl := lv_entry ([.int k1]) (n := 1) (Nat.le_of_ble_eq_true rfl)
  rw [lg_entry_eq]
  generalize (lg_sl ([.int k1]) ++ List.replicate (1 - (lg_sl ([.int k1])).length) Slot.unset).toArray = ls at hl ⊢
  have hl : lv_has ls 1 [(0, .int k1)] := hl
  generalize hX : sX_isSensor k1 = X
  refine bw_Q (fun Q hQ => ?_)
  have J14 : ∀  (ls : Array Slot), lv_has ls 1 [] → bX_isSensor_14 = X → W p l e (headSpec wsX0_isSensor rmX_isSensor).room s m ([.int k1] : List Value).toArray below meth c s.heap [] 0 0 Q (F0 m 14 ls []) := by
    intro  ls hl hX
    unfold bX_isSensor_14 at hX
    refine lv_iconst (v := 0) hx hb dX0_isSensor_14 (by decide +kernel) ?_
    subst hQ
    exact W.zret (ty := .boolean) (v := 0) hx hb hr (by decide +kernel) (fun t ht hW => ⟨⟨0, (), rfl, hX, trivial⟩, hS.F ht⟩) hS.2.2 dX0_isSensor_15
  unfold sX_isSensor at hX
  unfold bX_isSensor_0 at hX
  refine lv_iload_n hx hb dX0_isSensor_0 rfl (lv_at hl 0 rfl) ?_
  refine lv_if_lt (tgt := 14) hx hb dX0_isSensor_1 (by decide) (fun hc1 => ?_) (fun hc1 => ?_)
  · rw [if_pos hc1] at hX
    exact J14  ls (lv_sub hl [] rfl) hX
  · rw [if_neg hc1] at hX
    unfold bX_isSensor_4 at hX
    refine lv_iload_n hx hb dX0_isSensor_4 rfl (lv_at hl 0 rfl) ?_
    refine lv_bipush (v := 6) hx hb dX0_isSensor_5 (by decide +kernel) ?_
    refine lv_icmp_ge (tgt := 14) hx hb dX0_isSensor_7 (by decide) (fun hc7 => ?_) (fun hc7 => ?_)
    · rw [if_pos hc7] at hX
      exact J14  ls (lv_sub hl [] rfl) hX
    · rw [if_neg hc7] at hX
      unfold bX_isSensor_10 at hX
      refine lv_iconst (v := 1) hx hb dX0_isSensor_10 (by decide +kernel) ?_
      refine lv_goto (tgt := 15) hx hb dX0_isSensor_11 (by decide) ?_
      subst hQ
      exact W.zret (ty := .boolean) (v := 1) hx hb hr (by decide +kernel) (fun t ht hW => ⟨⟨1, (), rfl, hX, trivial⟩, hS.F ht⟩) hS.2.2 dX0_isSensor_15
abbrev rmX_set : Room := { frames := 1, cells := 0, slots := 0, locals := 22 }
set_option maxHeartbeats 4000000 in
set_option maxRecDepth 100000 in
theorem ctX_set (l : Launch) (D : va_G) (cI : ClassId) (h0 a0 a1 a2 a3 sz : Nat) (g4 g5 g6 g7 g8 g9 g10 g11 g12 g13 g14 g15 g16 g17 : Int32) (r0 r1 r2 r3 : Nat → Int32) (k1 k2 : Int32)  : Met l yX0_set wsX0_set rmX_set (va_Pc [.ref h0, .int k1, .int k2] (bw_pr D vwC2 [(cI, .int)] (wdX cI h0 a0 a1 a2 a3 g4 g5 g6 g7 g8 g9 g10 g11 g12 g13 g14 g15 g16 g17 r0 r1 r2 r3) sz (tbX (va_A (wdX cI h0 a0 a1 a2 a3 g4 g5 g6 g7 g8 g9 g10 g11 g12 g13 g14 g15 g16 g17 r0 r1 r2 r3) sz)))) (va_Qi (fun r u => (r, u) = sX_set g4 g5 g6 g7 g8 g9 g10 g11 g12 g13 g14 g15 g16 g17 r0 r1 r2 r3 k1 k2) (bw_at D vwC2 [(cI, .int)] (wfX cI h0 a0 a1 a2 a3) (va_A (wdX cI h0 a0 a1 a2 a3 g4 g5 g6 g7 g8 g9 g10 g11 g12 g13 g14 g15 g16 g17 r0 r1 r2 r3) sz)) (va_A (wdX cI h0 a0 a1 a2 a3 g4 g5 g6 g7 g8 g9 g10 g11 g12 g13 g14 g15 g16 g17 r0 r1 r2 r3) sz)) 0 0 (va_A (wdX cI h0 a0 a1 a2 a3 g4 g5 g6 g7 g8 g9 g10 g11 g12 g13 g14 g15 g16 g17 r0 r1 r2 r3) sz) := by
  refine Met.ofW (cc := cX0_set) (maxL := 3) (ret := (some .boolean)) (by decide) rfl ?_
  intro p e s m args below meth c s₁ B hml hv
  obtain ⟨rfl, hsz, hP, hK, hD0, hT⟩ := hv
  have hx := B.exec
  have hb := B.bytes
  have hr := B.returns
  have hts := atoms_spec (ws := wsX0_set) B.pre
  have hown : s.vm.findClass RX0 = some m.cls := findClass_of_methodNamed B.named
  have hlocks := B.notSynchronized
  subst hsz
  have hD := hD0.self (sz := s.heap.size)
  generalize hAe : va_A (wdX cI h0 a0 a1 a2 a3 g4 g5 g6 g7 g8 g9 g10 g11 g12 g13 g14 g15 g16 g17 r0 r1 r2 r3) s.heap.size = A at hD hT ⊢
  have hA : ∀ q : Nat, s.heap.size ≤ q → A q := fun q h => by rw [← hAe]; exact Or.inr h
  have hS : va_S A s.heap s.heap [] := va_S.rf
  have hl := lv_entry ([.ref h0, .int k1, .int k2]) (n := 3) (Nat.le_of_ble_eq_true rfl)
  rw [lg_entry_eq]
  generalize (lg_sl ([.ref h0, .int k1, .int k2]) ++ List.replicate (3 - (lg_sl ([.ref h0, .int k1, .int k2])).length) Slot.unset).toArray = ls at hl ⊢
  have hl : lv_has ls 3 [(0, .ref h0), (1, .int k1), (2, .int k2)] := hl
  generalize hX : sX_set g4 g5 g6 g7 g8 g9 g10 g11 g12 g13 g14 g15 g16 g17 r0 r1 r2 r3 k1 k2 = X
  refine bw_Q (fun Q hQ => ?_)
  have hinU : ∀ w ∈ wsX00, w ∈ wsX0_set := fun w h => List.mem_cons_of_mem _ (List.mem_append_right _ h)
  obtain ⟨t_PARAMETER_LEAST, z_PARAMETER_LEAST, u_PARAMETER_LEAST⟩ := hT.1
  obtain ⟨t_PARAMETER_GREATEST, z_PARAMETER_GREATEST, u_PARAMETER_GREATEST⟩ := hT.2.1
  have J31 : ∀ (g4 g5 g6 g7 g8 g9 g10 g11 g12 g13 g14 g15 g16 g17 : Int32) (r0 r1 r2 r3 : Nat → Int32) (H : Heap) (locs : List Loc) (ls : Array Slot), lv_has ls 3 [(0, .ref h0)] → va_P D vwC2 (wdX cI h0 a0 a1 a2 a3 g4 g5 g6 g7 g8 g9 g10 g11 g12 g13 g14 g15 g16 g17 r0 r1 r2 r3) H → va_D A (wdX cI h0 a0 a1 a2 a3 g4 g5 g6 g7 g8 g9 g10 g11 g12 g13 g14 g15 g16 g17 r0 r1 r2 r3) → va_S A s.heap H locs → bX_set_31 g4 g5 g6 g7 g8 g9 g10 g11 g12 g13 g14 g15 g16 g17 r0 r1 r2 r3 = X → W p l e (headSpec wsX0_set rmX_set).room s m ([.ref h0, .int k1, .int k2] : List Value).toArray below meth c H locs 0 0 Q (F0 m 31 ls []) := by
    intro g4 g5 g6 g7 g8 g9 g10 g11 g12 g13 g14 g15 g16 g17 r0 r1 r2 r3 H locs ls hl hP hD hS hX
    unfold bX_set_31 at hX
    refine lv_iconst (v := 0) hx hb dX0_set_31 (by decide +kernel) ?_
    subst hQ
    exact W.zret (ty := .boolean) (v := 0) hx hb hr (by decide +kernel) (fun t ht hW => ⟨⟨0, (g4, g5, g6, g7, g8, g9, g10, g11, g12, g13, g14, g15, g16, g17, r0, r1, r2, r3), rfl, hX, by rw [ht]; exact hP, va_K.moved hW.alike hK, hD⟩, hS.F ht⟩) hS.2.2 dX0_set_32
  unfold sX_set at hX
  unfold bX_set_0 at hX
  refine lv_iload_n hx hb dX0_set_0 rfl (lv_at hl 1 rfl) ?_
  refine bw_Si (As := [.int k1]) (rest := []) ⟨hx, hb, hml, hown, hts⟩ (ctX_isParameter l _ k1) (va_cwS 1 hts gX0_set_X0_isParameter rfl rfl rfl (by decide +kernel) ⟨Nat.le_of_ble_eq_true rfl, Nat.le_of_ble_eq_true rfl⟩) hP hS hA rfl hl.1 rfl (Nat.le_of_ble_eq_true rfl) dX0_set_1 ⟨Nat.le_of_ble_eq_true rfl, Nat.le_of_ble_eq_true rfl⟩ (fun H locs hP hS => ?_)
  refine lv_if_eq (tgt := 31) hx hb dX0_set_4 (by decide) (fun hc4 => ?_) (fun hc4 => ?_)
  · rw [if_pos hc4] at hX
    exact J31 g4 g5 g6 g7 g8 g9 g10 g11 g12 g13 g14 g15 g16 g17 r0 r1 r2 r3 _ _ ls (lv_sub hl [0] rfl) hP hD hS hX
  · rw [if_neg hc4] at hX
    unfold bX_set_7 at hX
    refine lv_aload_n hx hb dX0_set_7 rfl (lv_at hl 0 rfl) ?_
    refine va_get (D := D) (ci := 0) (v := .int g4) (C := RX0) (T := TX0) (N := 18) hx hb hts hinU hown hK hP 0 rfl rfl 4 (by decide) (hts (.fieldLink RX0 33 "BloodCircuitChannels" "phase" "I") (by decide +kernel)) (fun _ h9 => h9) rfl dX0_set_8 ?_
    refine lv_if_ne (tgt := 31) hx hb dX0_set_11 (by decide) (fun hc11 => ?_) (fun hc11 => ?_)
    · rw [if_neg hc11] at hX
      exact J31 g4 g5 g6 g7 g8 g9 g10 g11 g12 g13 g14 g15 g16 g17 r0 r1 r2 r3 _ _ ls (lv_sub hl [0] rfl) hP hD hS hX
    · rw [if_pos hc11] at hX
      unfold bX_set_14 at hX
      refine lv_iload_n hx hb dX0_set_14 rfl (lv_at hl 2 rfl) ?_
      refine va_gets (C := RX0) (n := "PARAMETER_LEAST") (d := "[I") hx hb z_PARAMETER_LEAST hS hown (hts (.fieldLink RX0 44 "BloodCircuitChannels" "PARAMETER_LEAST" "[I") (by decide +kernel)) (fun _ h9 => h9) dX0_set_15 ?_
      refine lv_iload_n hx hb dX0_set_18 rfl (lv_at hl 1 rfl) ?_
      refine va_ti (v := .int (tPL k1.toNatClampNeg)) hx hb u_PARAMETER_LEAST hS (inP hc4) rfl dX0_set_19 ?_
      refine va_gets (C := RX0) (n := "PARAMETER_GREATEST") (d := "[I") hx hb z_PARAMETER_GREATEST hS hown (hts (.fieldLink RX0 47 "BloodCircuitChannels" "PARAMETER_GREATEST" "[I") (by decide +kernel)) (fun _ h9 => h9) dX0_set_20 ?_
      refine lv_iload_n hx hb dX0_set_23 rfl (lv_at hl 1 rfl) ?_
      refine va_ti (v := .int (tPG k1.toNatClampNeg)) hx hb u_PARAMETER_GREATEST hS (inP hc4) rfl dX0_set_24 ?_
      refine bw_Si (As := [.int k2, .int (tPL k1.toNatClampNeg), .int (tPG k1.toNatClampNeg)]) (rest := []) ⟨hx, hb, hml, hown, hts⟩ (ctX_isOutside l _ k2 (tPL k1.toNatClampNeg) (tPG k1.toNatClampNeg)) (va_cwS 3 hts gX0_set_X0_isOutside rfl rfl rfl (by decide +kernel) ⟨Nat.le_of_ble_eq_true rfl, Nat.le_of_ble_eq_true rfl⟩) hP hS hA rfl hl.1 rfl (Nat.le_of_ble_eq_true rfl) dX0_set_25 ⟨Nat.le_of_ble_eq_true rfl, Nat.le_of_ble_eq_true rfl⟩ (fun H locs hP hS => ?_)
      refine lv_if_eq (tgt := 33) hx hb dX0_set_28 (by decide) (fun hc28 => ?_) (fun hc28 => ?_)
      · rw [if_pos hc28] at hX
        unfold bX_set_33 at hX
        refine lv_aload_n hx hb dX0_set_33 rfl (lv_at hl 0 rfl) ?_
        refine va_get (D := D) (ci := 0) (v := .ref a0) (C := RX0) (T := TX0) (N := 18) hx hb hts hinU hown hK hP 0 rfl rfl 0 (by decide) (hts (.fieldLink RX0 18 "BloodCircuitChannels" "parameters" "[I") (by decide +kernel)) (fun _ h9 => h9) rfl dX0_set_34 ?_
        refine lv_iload_n hx hb dX0_set_37 rfl (lv_at hl 1 rfl) ?_
        refine lv_iload_n hx hb dX0_set_38 rfl (lv_at hl 2 rfl) ?_
        refine va_iast hx hb hK hP hD hS 1 0 rfl rfl (inP hc4) dX0_set_39 (fun H locs hP hD hS => ?_)
        have hP : va_P D vwC2 (wdX cI h0 a0 a1 a2 a3 g4 g5 g6 g7 g8 g9 g10 g11 g12 g13 g14 g15 g16 g17 (upd r0 k1.toNatClampNeg k2) r1 r2 r3) H := hP
        have hD : va_D A (wdX cI h0 a0 a1 a2 a3 g4 g5 g6 g7 g8 g9 g10 g11 g12 g13 g14 g15 g16 g17 (upd r0 k1.toNatClampNeg k2) r1 r2 r3) := hD
        refine lv_iconst (v := 1) hx hb dX0_set_40 (by decide +kernel) ?_
        subst hQ
        exact W.zret (ty := .boolean) (v := 1) hx hb hr (by decide +kernel) (fun t ht hW => ⟨⟨1, (g4, g5, g6, g7, g8, g9, g10, g11, g12, g13, g14, g15, g16, g17, upd r0 k1.toNatClampNeg k2, r1, r2, r3), rfl, hX, by rw [ht]; exact hP, va_K.moved hW.alike hK, hD⟩, hS.F ht⟩) hS.2.2 dX0_set_41
      · rw [if_neg hc28] at hX
        exact J31 g4 g5 g6 g7 g8 g9 g10 g11 g12 g13 g14 g15 g16 g17 r0 r1 r2 r3 _ _ ls (lv_sub hl [0] rfl) hP hD hS hX
abbrev rmX_parameter : Room := { frames := 1, cells := 0, slots := 0, locals := 20 }
set_option maxHeartbeats 4000000 in
set_option maxRecDepth 100000 in
theorem ctX_parameter (l : Launch) (D : va_G) (cI : ClassId) (h0 a0 a1 a2 a3 sz : Nat) (g4 g5 g6 g7 g8 g9 g10 g11 g12 g13 g14 g15 g16 g17 : Int32) (r0 r1 r2 r3 : Nat → Int32) (k1 : Int32)  : Met l yX0_parameter wsX0_parameter rmX_parameter (va_Pc [.ref h0, .int k1] (bw_pr D vwC2 [(cI, .int)] (wdX cI h0 a0 a1 a2 a3 g4 g5 g6 g7 g8 g9 g10 g11 g12 g13 g14 g15 g16 g17 r0 r1 r2 r3) sz (tbX (va_A (wdX cI h0 a0 a1 a2 a3 g4 g5 g6 g7 g8 g9 g10 g11 g12 g13 g14 g15 g16 g17 r0 r1 r2 r3) sz)))) (va_Qi (fun r u => r = sX_parameter g4 g5 g6 g7 g8 g9 g10 g11 g12 g13 g14 g15 g16 g17 r0 r1 r2 r3 k1 ∧ u = (g4, g5, g6, g7, g8, g9, g10, g11, g12, g13, g14, g15, g16, g17, r0, r1, r2, r3)) (bw_at D vwC2 [(cI, .int)] (wfX cI h0 a0 a1 a2 a3) (va_A (wdX cI h0 a0 a1 a2 a3 g4 g5 g6 g7 g8 g9 g10 g11 g12 g13 g14 g15 g16 g17 r0 r1 r2 r3) sz)) (va_A (wdX cI h0 a0 a1 a2 a3 g4 g5 g6 g7 g8 g9 g10 g11 g12 g13 g14 g15 g16 g17 r0 r1 r2 r3) sz)) 0 0 (va_A (wdX cI h0 a0 a1 a2 a3 g4 g5 g6 g7 g8 g9 g10 g11 g12 g13 g14 g15 g16 g17 r0 r1 r2 r3) sz) := by
  refine Met.ofW (cc := cX0_parameter) (maxL := 2) (ret := (some .int)) (by decide) rfl ?_
  intro p e s m args below meth c s₁ B hml hv
  obtain ⟨rfl, hsz, hP, hK, hD0, hT⟩ := hv
  have hx := B.exec
  have hb := B.bytes
  have hr := B.returns
  have hts := atoms_spec (ws := wsX0_parameter) B.pre
  have hown : s.vm.findClass RX0 = some m.cls := findClass_of_methodNamed B.named
  have hlocks := B.notSynchronized
  subst hsz
  have hD := hD0.self (sz := s.heap.size)
  generalize hAe : va_A (wdX cI h0 a0 a1 a2 a3 g4 g5 g6 g7 g8 g9 g10 g11 g12 g13 g14 g15 g16 g17 r0 r1 r2 r3) s.heap.size = A at hD hT ⊢
  have hA : ∀ q : Nat, s.heap.size ≤ q → A q := fun q h => by rw [← hAe]; exact Or.inr h
  have hS : va_S A s.heap s.heap [] := va_S.rf
  have hl := lv_entry ([.ref h0, .int k1]) (n := 2) (Nat.le_of_ble_eq_true rfl)
  rw [lg_entry_eq]
  generalize (lg_sl ([.ref h0, .int k1]) ++ List.replicate (2 - (lg_sl ([.ref h0, .int k1])).length) Slot.unset).toArray = ls at hl ⊢
  have hl : lv_has ls 2 [(0, .ref h0), (1, .int k1)] := hl
  generalize hX : sX_parameter g4 g5 g6 g7 g8 g9 g10 g11 g12 g13 g14 g15 g16 g17 r0 r1 r2 r3 k1 = X
  refine bw_Q (fun Q hQ => ?_)
  have hinU : ∀ w ∈ wsX00, w ∈ wsX0_parameter := fun w h => List.mem_cons_of_mem _ (List.mem_append_right _ h)
  unfold sX_parameter at hX
  unfold bX_parameter_0 at hX
  refine lv_iload_n hx hb dX0_parameter_0 rfl (lv_at hl 1 rfl) ?_
  refine bw_Si (As := [.int k1]) (rest := []) ⟨hx, hb, hml, hown, hts⟩ (ctX_isParameter l _ k1) (va_cwS 1 hts gX0_parameter_X0_isParameter rfl rfl rfl (by decide +kernel) ⟨Nat.le_of_ble_eq_true rfl, Nat.le_of_ble_eq_true rfl⟩) hP hS hA rfl hl.1 rfl (Nat.le_of_ble_eq_true rfl) dX0_parameter_1 ⟨Nat.le_of_ble_eq_true rfl, Nat.le_of_ble_eq_true rfl⟩ (fun H locs hP hS => ?_)
  refine lv_if_eq (tgt := 16) hx hb dX0_parameter_4 (by decide) (fun hc4 => ?_) (fun hc4 => ?_)
  · rw [if_pos hc4] at hX
    unfold bX_parameter_16 at hX
    refine lv_iconst (v := 0) hx hb dX0_parameter_16 (by decide +kernel) ?_
    subst hQ
    exact W.iret (v := 0) hx hb hr (fun t ht hW => ⟨⟨0, (g4, g5, g6, g7, g8, g9, g10, g11, g12, g13, g14, g15, g16, g17, r0, r1, r2, r3), rfl, ⟨hX, rfl⟩, by rw [ht]; exact hP, va_K.moved hW.alike hK, hD⟩, hS.F ht⟩) hS.2.2 dX0_parameter_17
  · rw [if_neg hc4] at hX
    unfold bX_parameter_7 at hX
    refine lv_aload_n hx hb dX0_parameter_7 rfl (lv_at hl 0 rfl) ?_
    refine va_get (D := D) (ci := 0) (v := .ref a0) (C := RX0) (T := TX0) (N := 18) hx hb hts hinU hown hK hP 0 rfl rfl 0 (by decide) (hts (.fieldLink RX0 18 "BloodCircuitChannels" "parameters" "[I") (by decide +kernel)) (fun _ h9 => h9) rfl dX0_parameter_8 ?_
    refine lv_iload_n hx hb dX0_parameter_11 rfl (lv_at hl 1 rfl) ?_
    refine va_iald hx hb hK hP 1 0 rfl rfl (inP hc4) dX0_parameter_12 ?_
    refine lv_goto (tgt := 17) hx hb dX0_parameter_13 (by decide) ?_
    subst hQ
    exact W.iret (v := r0 k1.toNatClampNeg) hx hb hr (fun t ht hW => ⟨⟨r0 k1.toNatClampNeg, (g4, g5, g6, g7, g8, g9, g10, g11, g12, g13, g14, g15, g16, g17, r0, r1, r2, r3), rfl, ⟨hX, rfl⟩, by rw [ht]; exact hP, va_K.moved hW.alike hK, hD⟩, hS.F ht⟩) hS.2.2 dX0_parameter_17
abbrev rmX_sense : Room := { frames := 1, cells := 0, slots := 0, locals := 20 }
set_option maxHeartbeats 4000000 in
set_option maxRecDepth 100000 in
theorem ctX_sense (l : Launch) (D : va_G) (cI : ClassId) (h0 a0 a1 a2 a3 sz : Nat) (g4 g5 g6 g7 g8 g9 g10 g11 g12 g13 g14 g15 g16 g17 : Int32) (r0 r1 r2 r3 : Nat → Int32) (k1 k2 : Int32)  : Met l yX0_sense wsX0_sense rmX_sense (va_Pc [.ref h0, .int k1, .int k2] (bw_pr D vwC2 [(cI, .int)] (wdX cI h0 a0 a1 a2 a3 g4 g5 g6 g7 g8 g9 g10 g11 g12 g13 g14 g15 g16 g17 r0 r1 r2 r3) sz (tbX (va_A (wdX cI h0 a0 a1 a2 a3 g4 g5 g6 g7 g8 g9 g10 g11 g12 g13 g14 g15 g16 g17 r0 r1 r2 r3) sz)))) (va_Qi (fun r u => (r, u) = sX_sense g4 g5 g6 g7 g8 g9 g10 g11 g12 g13 g14 g15 g16 g17 r0 r1 r2 r3 k1 k2) (bw_at D vwC2 [(cI, .int)] (wfX cI h0 a0 a1 a2 a3) (va_A (wdX cI h0 a0 a1 a2 a3 g4 g5 g6 g7 g8 g9 g10 g11 g12 g13 g14 g15 g16 g17 r0 r1 r2 r3) sz)) (va_A (wdX cI h0 a0 a1 a2 a3 g4 g5 g6 g7 g8 g9 g10 g11 g12 g13 g14 g15 g16 g17 r0 r1 r2 r3) sz)) 0 0 (va_A (wdX cI h0 a0 a1 a2 a3 g4 g5 g6 g7 g8 g9 g10 g11 g12 g13 g14 g15 g16 g17 r0 r1 r2 r3) sz) := by
  refine Met.ofW (cc := cX0_sense) (maxL := 3) (ret := (some .boolean)) (by decide) rfl ?_
  intro p e s m args below meth c s₁ B hml hv
  obtain ⟨rfl, hsz, hP, hK, hD0, hT⟩ := hv
  have hx := B.exec
  have hb := B.bytes
  have hr := B.returns
  have hts := atoms_spec (ws := wsX0_sense) B.pre
  have hown : s.vm.findClass RX0 = some m.cls := findClass_of_methodNamed B.named
  have hlocks := B.notSynchronized
  subst hsz
  have hD := hD0.self (sz := s.heap.size)
  generalize hAe : va_A (wdX cI h0 a0 a1 a2 a3 g4 g5 g6 g7 g8 g9 g10 g11 g12 g13 g14 g15 g16 g17 r0 r1 r2 r3) s.heap.size = A at hD hT ⊢
  have hA : ∀ q : Nat, s.heap.size ≤ q → A q := fun q h => by rw [← hAe]; exact Or.inr h
  have hS : va_S A s.heap s.heap [] := va_S.rf
  have hl := lv_entry ([.ref h0, .int k1, .int k2]) (n := 3) (Nat.le_of_ble_eq_true rfl)
  rw [lg_entry_eq]
  generalize (lg_sl ([.ref h0, .int k1, .int k2]) ++ List.replicate (3 - (lg_sl ([.ref h0, .int k1, .int k2])).length) Slot.unset).toArray = ls at hl ⊢
  have hl : lv_has ls 3 [(0, .ref h0), (1, .int k1), (2, .int k2)] := hl
  generalize hX : sX_sense g4 g5 g6 g7 g8 g9 g10 g11 g12 g13 g14 g15 g16 g17 r0 r1 r2 r3 k1 k2 = X
  refine bw_Q (fun Q hQ => ?_)
  have hinU : ∀ w ∈ wsX00, w ∈ wsX0_sense := fun w h => List.mem_cons_of_mem _ (List.mem_append_right _ h)
  unfold sX_sense at hX
  unfold bX_sense_0 at hX
  refine lv_iload_n hx hb dX0_sense_0 rfl (lv_at hl 1 rfl) ?_
  refine bw_Si (As := [.int k1]) (rest := []) ⟨hx, hb, hml, hown, hts⟩ (ctX_isSensor l _ k1) (va_cwS 1 hts gX0_sense_X0_isSensor rfl rfl rfl (by decide +kernel) ⟨Nat.le_of_ble_eq_true rfl, Nat.le_of_ble_eq_true rfl⟩) hP hS hA rfl hl.1 rfl (Nat.le_of_ble_eq_true rfl) dX0_sense_1 ⟨Nat.le_of_ble_eq_true rfl, Nat.le_of_ble_eq_true rfl⟩ (fun H locs hP hS => ?_)
  refine lv_if_ne (tgt := 9) hx hb dX0_sense_4 (by decide) (fun hc4 => ?_) (fun hc4 => ?_)
  · rw [if_neg hc4] at hX
    unfold bX_sense_9 at hX
    refine lv_aload_n hx hb dX0_sense_9 rfl (lv_at hl 0 rfl) ?_
    refine va_get (D := D) (ci := 0) (v := .ref a1) (C := RX0) (T := TX0) (N := 18) hx hb hts hinU hown hK hP 0 rfl rfl 1 (by decide) (hts (.fieldLink RX0 24 "BloodCircuitChannels" "raw" "[I") (by decide +kernel)) (fun _ h9 => h9) rfl dX0_sense_10 ?_
    refine lv_iload_n hx hb dX0_sense_13 rfl (lv_at hl 1 rfl) ?_
    refine lv_iload_n hx hb dX0_sense_14 rfl (lv_at hl 2 rfl) ?_
    refine va_iast hx hb hK hP hD hS 2 0 rfl rfl (inS hc4) dX0_sense_15 (fun H locs hP hD hS => ?_)
    have hP : va_P D vwC2 (wdX cI h0 a0 a1 a2 a3 g4 g5 g6 g7 g8 g9 g10 g11 g12 g13 g14 g15 g16 g17 r0 (upd r1 k1.toNatClampNeg k2) r2 r3) H := hP
    have hD : va_D A (wdX cI h0 a0 a1 a2 a3 g4 g5 g6 g7 g8 g9 g10 g11 g12 g13 g14 g15 g16 g17 r0 (upd r1 k1.toNatClampNeg k2) r2 r3) := hD
    refine lv_iconst (v := 1) hx hb dX0_sense_16 (by decide +kernel) ?_
    subst hQ
    exact W.zret (ty := .boolean) (v := 1) hx hb hr (by decide +kernel) (fun t ht hW => ⟨⟨1, (g4, g5, g6, g7, g8, g9, g10, g11, g12, g13, g14, g15, g16, g17, r0, upd r1 k1.toNatClampNeg k2, r2, r3), rfl, hX, by rw [ht]; exact hP, va_K.moved hW.alike hK, hD⟩, hS.F ht⟩) hS.2.2 dX0_sense_17
  · rw [if_pos hc4] at hX
    unfold bX_sense_7 at hX
    refine lv_iconst (v := 0) hx hb dX0_sense_7 (by decide +kernel) ?_
    subst hQ
    exact W.zret (ty := .boolean) (v := 0) hx hb hr (by decide +kernel) (fun t ht hW => ⟨⟨0, (g4, g5, g6, g7, g8, g9, g10, g11, g12, g13, g14, g15, g16, g17, r0, r1, r2, r3), rfl, hX, by rw [ht]; exact hP, va_K.moved hW.alike hK, hD⟩, hS.F ht⟩) hS.2.2 dX0_sense_8
abbrev rmX_conditioned : Room := { frames := 1, cells := 0, slots := 0, locals := 20 }
set_option maxHeartbeats 4000000 in
set_option maxRecDepth 100000 in
theorem ctX_conditioned (l : Launch) (D : va_G) (cI : ClassId) (h0 a0 a1 a2 a3 sz : Nat) (g4 g5 g6 g7 g8 g9 g10 g11 g12 g13 g14 g15 g16 g17 : Int32) (r0 r1 r2 r3 : Nat → Int32) (k1 : Int32)  : Met l yX0_conditioned wsX0_conditioned rmX_conditioned (va_Pc [.ref h0, .int k1] (bw_pr D vwC2 [(cI, .int)] (wdX cI h0 a0 a1 a2 a3 g4 g5 g6 g7 g8 g9 g10 g11 g12 g13 g14 g15 g16 g17 r0 r1 r2 r3) sz (tbX (va_A (wdX cI h0 a0 a1 a2 a3 g4 g5 g6 g7 g8 g9 g10 g11 g12 g13 g14 g15 g16 g17 r0 r1 r2 r3) sz)))) (va_Qi (fun r u => r = sX_conditioned g4 g5 g6 g7 g8 g9 g10 g11 g12 g13 g14 g15 g16 g17 r0 r1 r2 r3 k1 ∧ u = (g4, g5, g6, g7, g8, g9, g10, g11, g12, g13, g14, g15, g16, g17, r0, r1, r2, r3)) (bw_at D vwC2 [(cI, .int)] (wfX cI h0 a0 a1 a2 a3) (va_A (wdX cI h0 a0 a1 a2 a3 g4 g5 g6 g7 g8 g9 g10 g11 g12 g13 g14 g15 g16 g17 r0 r1 r2 r3) sz)) (va_A (wdX cI h0 a0 a1 a2 a3 g4 g5 g6 g7 g8 g9 g10 g11 g12 g13 g14 g15 g16 g17 r0 r1 r2 r3) sz)) 0 0 (va_A (wdX cI h0 a0 a1 a2 a3 g4 g5 g6 g7 g8 g9 g10 g11 g12 g13 g14 g15 g16 g17 r0 r1 r2 r3) sz) := by
  refine Met.ofW (cc := cX0_conditioned) (maxL := 2) (ret := (some .int)) (by decide) rfl ?_
  intro p e s m args below meth c s₁ B hml hv
  obtain ⟨rfl, hsz, hP, hK, hD0, hT⟩ := hv
  have hx := B.exec
  have hb := B.bytes
  have hr := B.returns
  have hts := atoms_spec (ws := wsX0_conditioned) B.pre
  have hown : s.vm.findClass RX0 = some m.cls := findClass_of_methodNamed B.named
  have hlocks := B.notSynchronized
  subst hsz
  have hD := hD0.self (sz := s.heap.size)
  generalize hAe : va_A (wdX cI h0 a0 a1 a2 a3 g4 g5 g6 g7 g8 g9 g10 g11 g12 g13 g14 g15 g16 g17 r0 r1 r2 r3) s.heap.size = A at hD hT ⊢
  have hA : ∀ q : Nat, s.heap.size ≤ q → A q := fun q h => by rw [← hAe]; exact Or.inr h
  have hS : va_S A s.heap s.heap [] := va_S.rf
  have hl := lv_entry ([.ref h0, .int k1]) (n := 2) (Nat.le_of_ble_eq_true rfl)
  rw [lg_entry_eq]
  generalize (lg_sl ([.ref h0, .int k1]) ++ List.replicate (2 - (lg_sl ([.ref h0, .int k1])).length) Slot.unset).toArray = ls at hl ⊢
  have hl : lv_has ls 2 [(0, .ref h0), (1, .int k1)] := hl
  generalize hX : sX_conditioned g4 g5 g6 g7 g8 g9 g10 g11 g12 g13 g14 g15 g16 g17 r0 r1 r2 r3 k1 = X
  refine bw_Q (fun Q hQ => ?_)
  have hinU : ∀ w ∈ wsX00, w ∈ wsX0_conditioned := fun w h => List.mem_cons_of_mem _ (List.mem_append_right _ h)
  unfold sX_conditioned at hX
  unfold bX_conditioned_0 at hX
  refine lv_iload_n hx hb dX0_conditioned_0 rfl (lv_at hl 1 rfl) ?_
  refine bw_Si (As := [.int k1]) (rest := []) ⟨hx, hb, hml, hown, hts⟩ (ctX_isSensor l _ k1) (va_cwS 1 hts gX0_conditioned_X0_isSensor rfl rfl rfl (by decide +kernel) ⟨Nat.le_of_ble_eq_true rfl, Nat.le_of_ble_eq_true rfl⟩) hP hS hA rfl hl.1 rfl (Nat.le_of_ble_eq_true rfl) dX0_conditioned_1 ⟨Nat.le_of_ble_eq_true rfl, Nat.le_of_ble_eq_true rfl⟩ (fun H locs hP hS => ?_)
  refine lv_if_eq (tgt := 16) hx hb dX0_conditioned_4 (by decide) (fun hc4 => ?_) (fun hc4 => ?_)
  · rw [if_pos hc4] at hX
    unfold bX_conditioned_16 at hX
    refine lv_iconst (v := 0) hx hb dX0_conditioned_16 (by decide +kernel) ?_
    subst hQ
    exact W.iret (v := 0) hx hb hr (fun t ht hW => ⟨⟨0, (g4, g5, g6, g7, g8, g9, g10, g11, g12, g13, g14, g15, g16, g17, r0, r1, r2, r3), rfl, ⟨hX, rfl⟩, by rw [ht]; exact hP, va_K.moved hW.alike hK, hD⟩, hS.F ht⟩) hS.2.2 dX0_conditioned_17
  · rw [if_neg hc4] at hX
    unfold bX_conditioned_7 at hX
    refine lv_aload_n hx hb dX0_conditioned_7 rfl (lv_at hl 0 rfl) ?_
    refine va_get (D := D) (ci := 0) (v := .ref a2) (C := RX0) (T := TX0) (N := 18) hx hb hts hinU hown hK hP 0 rfl rfl 2 (by decide) (hts (.fieldLink RX0 27 "BloodCircuitChannels" "conditioned" "[I") (by decide +kernel)) (fun _ h9 => h9) rfl dX0_conditioned_8 ?_
    refine lv_iload_n hx hb dX0_conditioned_11 rfl (lv_at hl 1 rfl) ?_
    refine va_iald hx hb hK hP 3 0 rfl rfl (inS hc4) dX0_conditioned_12 ?_
    refine lv_goto (tgt := 17) hx hb dX0_conditioned_13 (by decide) ?_
    subst hQ
    exact W.iret (v := r2 k1.toNatClampNeg) hx hb hr (fun t ht hW => ⟨⟨r2 k1.toNatClampNeg, (g4, g5, g6, g7, g8, g9, g10, g11, g12, g13, g14, g15, g16, g17, r0, r1, r2, r3), rfl, ⟨hX, rfl⟩, by rw [ht]; exact hP, va_K.moved hW.alike hK, hD⟩, hS.F ht⟩) hS.2.2 dX0_conditioned_17
abbrev rmX_faulty : Room := { frames := 1, cells := 0, slots := 0, locals := 20 }
set_option maxHeartbeats 4000000 in
set_option maxRecDepth 100000 in
theorem ctX_faulty (l : Launch) (D : va_G) (cI : ClassId) (h0 a0 a1 a2 a3 sz : Nat) (g4 g5 g6 g7 g8 g9 g10 g11 g12 g13 g14 g15 g16 g17 : Int32) (r0 r1 r2 r3 : Nat → Int32) (k1 : Int32)  : Met l yX0_faulty wsX0_faulty rmX_faulty (va_Pc [.ref h0, .int k1] (bw_pr D vwC2 [(cI, .int)] (wdX cI h0 a0 a1 a2 a3 g4 g5 g6 g7 g8 g9 g10 g11 g12 g13 g14 g15 g16 g17 r0 r1 r2 r3) sz (tbX (va_A (wdX cI h0 a0 a1 a2 a3 g4 g5 g6 g7 g8 g9 g10 g11 g12 g13 g14 g15 g16 g17 r0 r1 r2 r3) sz)))) (va_Qi (fun r u => r = sX_faulty g4 g5 g6 g7 g8 g9 g10 g11 g12 g13 g14 g15 g16 g17 r0 r1 r2 r3 k1 ∧ u = (g4, g5, g6, g7, g8, g9, g10, g11, g12, g13, g14, g15, g16, g17, r0, r1, r2, r3)) (bw_at D vwC2 [(cI, .int)] (wfX cI h0 a0 a1 a2 a3) (va_A (wdX cI h0 a0 a1 a2 a3 g4 g5 g6 g7 g8 g9 g10 g11 g12 g13 g14 g15 g16 g17 r0 r1 r2 r3) sz)) (va_A (wdX cI h0 a0 a1 a2 a3 g4 g5 g6 g7 g8 g9 g10 g11 g12 g13 g14 g15 g16 g17 r0 r1 r2 r3) sz)) 0 0 (va_A (wdX cI h0 a0 a1 a2 a3 g4 g5 g6 g7 g8 g9 g10 g11 g12 g13 g14 g15 g16 g17 r0 r1 r2 r3) sz) := by
  refine Met.ofW (cc := cX0_faulty) (maxL := 2) (ret := (some .boolean)) (by decide) rfl ?_
  intro p e s m args below meth c s₁ B hml hv
  obtain ⟨rfl, hsz, hP, hK, hD0, hT⟩ := hv
  have hx := B.exec
  have hb := B.bytes
  have hr := B.returns
  have hts := atoms_spec (ws := wsX0_faulty) B.pre
  have hown : s.vm.findClass RX0 = some m.cls := findClass_of_methodNamed B.named
  have hlocks := B.notSynchronized
  subst hsz
  have hD := hD0.self (sz := s.heap.size)
  generalize hAe : va_A (wdX cI h0 a0 a1 a2 a3 g4 g5 g6 g7 g8 g9 g10 g11 g12 g13 g14 g15 g16 g17 r0 r1 r2 r3) s.heap.size = A at hD hT ⊢
  have hA : ∀ q : Nat, s.heap.size ≤ q → A q := fun q h => by rw [← hAe]; exact Or.inr h
  have hS : va_S A s.heap s.heap [] := va_S.rf
  have hl := lv_entry ([.ref h0, .int k1]) (n := 2) (Nat.le_of_ble_eq_true rfl)
  rw [lg_entry_eq]
  generalize (lg_sl ([.ref h0, .int k1]) ++ List.replicate (2 - (lg_sl ([.ref h0, .int k1])).length) Slot.unset).toArray = ls at hl ⊢
  have hl : lv_has ls 2 [(0, .ref h0), (1, .int k1)] := hl
  generalize hX : sX_faulty g4 g5 g6 g7 g8 g9 g10 g11 g12 g13 g14 g15 g16 g17 r0 r1 r2 r3 k1 = X
  refine bw_Q (fun Q hQ => ?_)
  have hinU : ∀ w ∈ wsX00, w ∈ wsX0_faulty := fun w h => List.mem_cons_of_mem _ (List.mem_append_right _ h)
  have J21 : ∀  (H : Heap) (locs : List Loc) (ls : Array Slot), lv_has ls 2 [(0, .ref h0)] → va_P D vwC2 (wdX cI h0 a0 a1 a2 a3 g4 g5 g6 g7 g8 g9 g10 g11 g12 g13 g14 g15 g16 g17 r0 r1 r2 r3) H → va_D A (wdX cI h0 a0 a1 a2 a3 g4 g5 g6 g7 g8 g9 g10 g11 g12 g13 g14 g15 g16 g17 r0 r1 r2 r3) → va_S A s.heap H locs → bX_faulty_21 g4 g5 g6 g7 g8 g9 g10 g11 g12 g13 g14 g15 g16 g17 r0 r1 r2 r3 = X → W p l e (headSpec wsX0_faulty rmX_faulty).room s m ([.ref h0, .int k1] : List Value).toArray below meth c H locs 0 0 Q (F0 m 21 ls []) := by
    intro  H locs ls hl hP hD hS hX
    unfold bX_faulty_21 at hX
    refine lv_iconst (v := 0) hx hb dX0_faulty_21 (by decide +kernel) ?_
    subst hQ
    exact W.zret (ty := .boolean) (v := 0) hx hb hr (by decide +kernel) (fun t ht hW => ⟨⟨0, (g4, g5, g6, g7, g8, g9, g10, g11, g12, g13, g14, g15, g16, g17, r0, r1, r2, r3), rfl, ⟨hX, rfl⟩, by rw [ht]; exact hP, va_K.moved hW.alike hK, hD⟩, hS.F ht⟩) hS.2.2 dX0_faulty_22
  unfold sX_faulty at hX
  unfold bX_faulty_0 at hX
  refine lv_iload_n hx hb dX0_faulty_0 rfl (lv_at hl 1 rfl) ?_
  refine bw_Si (As := [.int k1]) (rest := []) ⟨hx, hb, hml, hown, hts⟩ (ctX_isSensor l _ k1) (va_cwS 1 hts gX0_faulty_X0_isSensor rfl rfl rfl (by decide +kernel) ⟨Nat.le_of_ble_eq_true rfl, Nat.le_of_ble_eq_true rfl⟩) hP hS hA rfl hl.1 rfl (Nat.le_of_ble_eq_true rfl) dX0_faulty_1 ⟨Nat.le_of_ble_eq_true rfl, Nat.le_of_ble_eq_true rfl⟩ (fun H locs hP hS => ?_)
  refine lv_if_eq (tgt := 21) hx hb dX0_faulty_4 (by decide) (fun hc4 => ?_) (fun hc4 => ?_)
  · rw [if_pos hc4] at hX
    exact J21  _ _ ls (lv_sub hl [0] rfl) hP hD hS hX
  · rw [if_neg hc4] at hX
    unfold bX_faulty_7 at hX
    refine lv_aload_n hx hb dX0_faulty_7 rfl (lv_at hl 0 rfl) ?_
    refine va_get (D := D) (ci := 0) (v := .ref a3) (C := RX0) (T := TX0) (N := 18) hx hb hts hinU hown hK hP 0 rfl rfl 3 (by decide) (hts (.fieldLink RX0 30 "BloodCircuitChannels" "implausibleTicks" "[I") (by decide +kernel)) (fun _ h9 => h9) rfl dX0_faulty_8 ?_
    refine lv_iload_n hx hb dX0_faulty_11 rfl (lv_at hl 1 rfl) ?_
    refine va_iald hx hb hK hP 4 0 rfl rfl (inS hc4) dX0_faulty_12 ?_
    refine lv_iconst (v := 3) hx hb dX0_faulty_13 (by decide +kernel) ?_
    refine lv_icmp_lt (tgt := 21) hx hb dX0_faulty_14 (by decide) (fun hc14 => ?_) (fun hc14 => ?_)
    · rw [if_pos hc14] at hX
      exact J21  _ _ ls (lv_sub hl [0] rfl) hP hD hS hX
    · rw [if_neg hc14] at hX
      unfold bX_faulty_17 at hX
      refine lv_iconst (v := 1) hx hb dX0_faulty_17 (by decide +kernel) ?_
      refine lv_goto (tgt := 22) hx hb dX0_faulty_18 (by decide) ?_
      subst hQ
      exact W.zret (ty := .boolean) (v := 1) hx hb hr (by decide +kernel) (fun t ht hW => ⟨⟨1, (g4, g5, g6, g7, g8, g9, g10, g11, g12, g13, g14, g15, g16, g17, r0, r1, r2, r3), rfl, ⟨hX, rfl⟩, by rw [ht]; exact hP, va_K.moved hW.alike hK, hD⟩, hS.F ht⟩) hS.2.2 dX0_faulty_22
