abbrev rmX_conditionSensors : Room := { frames := 1, cells := 0, slots := 0, locals := 22 }
set_option maxHeartbeats 4000000 in
set_option maxRecDepth 100000 in
theorem ctX_conditionSensors (l : Launch) (D : va_G) (cI : ClassId) (h0 a0 a1 a2 a3 sz : Nat) (g4 g5 g6 g7 g8 g9 g10 g11 g12 g13 g14 g15 g16 g17 : Int32) (r0 r1 r2 r3 : Nat → Int32)   : Met l yX0_conditionSensors wsX0_conditionSensors rmX_conditionSensors (va_Pc [.ref h0] (bw_pr D vwC2 [(cI, .int)] (wdX cI h0 a0 a1 a2 a3 g4 g5 g6 g7 g8 g9 g10 g11 g12 g13 g14 g15 g16 g17 r0 r1 r2 r3) sz (tbX (va_A (wdX cI h0 a0 a1 a2 a3 g4 g5 g6 g7 g8 g9 g10 g11 g12 g13 g14 g15 g16 g17 r0 r1 r2 r3) sz)))) (va_Qv (fun u => u = sX_conditionSensors g4 g5 g6 g7 g8 g9 g10 g11 g12 g13 g14 g15 g16 g17 r0 r1 r2 r3) (bw_at D vwC2 [(cI, .int)] (wfX cI h0 a0 a1 a2 a3) (va_A (wdX cI h0 a0 a1 a2 a3 g4 g5 g6 g7 g8 g9 g10 g11 g12 g13 g14 g15 g16 g17 r0 r1 r2 r3) sz)) (va_A (wdX cI h0 a0 a1 a2 a3 g4 g5 g6 g7 g8 g9 g10 g11 g12 g13 g14 g15 g16 g17 r0 r1 r2 r3) sz)) 0 0 (va_A (wdX cI h0 a0 a1 a2 a3 g4 g5 g6 g7 g8 g9 g10 g11 g12 g13 g14 g15 g16 g17 r0 r1 r2 r3) sz) := by
  refine Met.ofW (cc := cX0_conditionSensors) (maxL := 2) (ret := none) (by decide) rfl ?_
  intro p e s m args below meth c s₁ B hml hv
  obtain ⟨rfl, hsz, hP, hK, hD0, hT⟩ := hv
  have hx := B.exec
  have hb := B.bytes
  have hr := B.returns
  have hts := atoms_spec (ws := wsX0_conditionSensors) B.pre
  have hown : s.vm.findClass RX0 = some m.cls := findClass_of_methodNamed B.named
  have hlocks := B.notSynchronized
  subst hsz
  have hD := hD0.self (sz := s.heap.size)
  generalize hAe : va_A (wdX cI h0 a0 a1 a2 a3 g4 g5 g6 g7 g8 g9 g10 g11 g12 g13 g14 g15 g16 g17 r0 r1 r2 r3) s.heap.size = A at hD hT ⊢
  have hA : ∀ q : Nat, s.heap.size ≤ q → A q := fun q h => by rw [← hAe]; exact Or.inr h
  have hS : va_S A s.heap s.heap [] := va_S.rf
  have hl := lv_entry ([.ref h0]) (n := 2) (Nat.le_of_ble_eq_true rfl)
  rw [lg_entry_eq]
  generalize (lg_sl ([.ref h0]) ++ List.replicate (2 - (lg_sl ([.ref h0])).length) Slot.unset).toArray = ls at hl ⊢
  have hl : lv_has ls 2 [(0, .ref h0)] := hl
  generalize hX : sX_conditionSensors g4 g5 g6 g7 g8 g9 g10 g11 g12 g13 g14 g15 g16 g17 r0 r1 r2 r3 = X
  refine bw_Q (fun Q hQ => ?_)
  have hinU : ∀ w ∈ wsX00, w ∈ wsX0_conditionSensors := fun w h => List.mem_cons_of_mem _ (List.mem_append_right _ h)
  obtain ⟨t_SENSOR_LEAST, z_SENSOR_LEAST, u_SENSOR_LEAST⟩ := hT.2.2.1
  obtain ⟨t_SENSOR_GREATEST, z_SENSOR_GREATEST, u_SENSOR_GREATEST⟩ := hT.2.2.2
  have JH2 : ∀ (f k : Nat), k < f → k ≤ 6 → ∀ (g4 g5 g6 g7 g8 g9 g10 g11 g12 g13 g14 g15 g16 g17 : Int32) (r0 r1 r2 r3 : Nat → Int32) (x1 : Int32), x1 = nI (6 - k) → ∀ (H : Heap) (locs : List Loc) (ls : Array Slot), lv_has ls 2 [(0, .ref h0), (1, .int x1)] → va_P D vwC2 (wdX cI h0 a0 a1 a2 a3 g4 g5 g6 g7 g8 g9 g10 g11 g12 g13 g14 g15 g16 g17 r0 r1 r2 r3) H → va_D A (wdX cI h0 a0 a1 a2 a3 g4 g5 g6 g7 g8 g9 g10 g11 g12 g13 g14 g15 g16 g17 r0 r1 r2 r3) → va_S A s.heap H locs → bX_conditionSensors_2 f g4 g5 g6 g7 g8 g9 g10 g11 g12 g13 g14 g15 g16 g17 r0 r1 r2 r3 x1 = X → W p l e (headSpec wsX0_conditionSensors rmX_conditionSensors).room s m ([.ref h0] : List Value).toArray below meth c H locs 0 0 Q (F0 m 2 ls []) := by
    intro f
    induction f with
    | zero => intro k hkf; omega
    | succ f ih =>
      intro k hkf hkN g4 g5 g6 g7 g8 g9 g10 g11 g12 g13 g14 g15 g16 g17 r0 r1 r2 r3 x1 hi H locs ls hl hP hD hS hX
      rw [bX_conditionSensors_2_s] at hX
      refine lv_iload_n hx hb dX0_conditionSensors_2 rfl (lv_at hl 1 rfl) ?_
      refine lv_bipush (v := 6) hx hb dX0_conditionSensors_3 (by decide +kernel) ?_
      refine lv_icmp_ge (tgt := 68) hx hb dX0_conditionSensors_5 (by decide) (fun hc5 => ?_) (fun hc5 => ?_)
      · rw [if_pos hc5] at hX
        subst hQ
        exact W.vret hx hb hr (fun t ht hW => ⟨⟨(g4, g5, g6, g7, g8, g9, g10, g11, g12, g13, g14, g15, g16, g17, r0, r1, r2, r3), rfl, hX, by rw [ht]; exact hP, va_K.moved hW.alike hK, hD⟩, hS.F ht⟩) hS.2.2 dX0_conditionSensors_68
      · rw [if_neg hc5] at hX
        have hk0 : k ≠ 0 := fun h => hc5 (by rw [hi, h]; decide +kernel)
        obtain ⟨k, rfl⟩ : ∃ k', k = k' + 1 := ⟨k - 1, by omega⟩
        have hin : vp_in x1 6 := by rw [hi]; exact vp_in_nI (by omega) (by decide)
        unfold bX_conditionSensors_8 at hX
        refine lv_aload_n hx hb dX0_conditionSensors_8 rfl (lv_at hl 0 rfl) ?_
        refine va_get (D := D) (ci := 0) (v := .ref a1) (C := RX0) (T := TX0) (N := 18) hx hb hts hinU hown hK hP 0 rfl rfl 1 (by decide) (hts (.fieldLink RX0 24 "BloodCircuitChannels" "raw" "[I") (by decide +kernel)) (fun _ h9 => h9) rfl dX0_conditionSensors_9 ?_
        refine lv_iload_n hx hb dX0_conditionSensors_12 rfl (lv_at hl 1 rfl) ?_
        refine va_iald hx hb hK hP 2 0 rfl rfl hin dX0_conditionSensors_13 ?_
        refine va_gets (C := RX0) (n := "SENSOR_LEAST") (d := "[I") hx hb z_SENSOR_LEAST hS hown (hts (.fieldLink RX0 118 "BloodCircuitChannels" "SENSOR_LEAST" "[I") (by decide +kernel)) (fun _ h9 => h9) dX0_conditionSensors_14 ?_
        refine lv_iload_n hx hb dX0_conditionSensors_17 rfl (lv_at hl 1 rfl) ?_
        refine va_ti (v := .int (tSL x1.toNatClampNeg)) hx hb u_SENSOR_LEAST hS hin rfl dX0_conditionSensors_18 ?_
        refine va_gets (C := RX0) (n := "SENSOR_GREATEST") (d := "[I") hx hb z_SENSOR_GREATEST hS hown (hts (.fieldLink RX0 121 "BloodCircuitChannels" "SENSOR_GREATEST" "[I") (by decide +kernel)) (fun _ h9 => h9) dX0_conditionSensors_19 ?_
        refine lv_iload_n hx hb dX0_conditionSensors_22 rfl (lv_at hl 1 rfl) ?_
        refine va_ti (v := .int (tSG x1.toNatClampNeg)) hx hb u_SENSOR_GREATEST hS hin rfl dX0_conditionSensors_23 ?_
        refine bw_Si (As := [.int (r1 x1.toNatClampNeg), .int (tSL x1.toNatClampNeg), .int (tSG x1.toNatClampNeg)]) (rest := []) ⟨hx, hb, hml, hown, hts⟩ (ctX_isOutside l _ (r1 x1.toNatClampNeg) (tSL x1.toNatClampNeg) (tSG x1.toNatClampNeg)) (va_cwS 3 hts gX0_conditionSensors_X0_isOutside rfl rfl rfl (by decide +kernel) ⟨Nat.le_of_ble_eq_true rfl, Nat.le_of_ble_eq_true rfl⟩) hP hS hA rfl hl.1 rfl (Nat.le_of_ble_eq_true rfl) dX0_conditionSensors_24 ⟨Nat.le_of_ble_eq_true rfl, Nat.le_of_ble_eq_true rfl⟩ (fun H locs hP hS => ?_)
        refine lv_if_eq (tgt := 43) hx hb dX0_conditionSensors_27 (by decide) (fun hc27 => ?_) (fun hc27 => ?_)
        · rw [if_pos hc27] at hX
          unfold bX_conditionSensors_43 at hX
          refine lv_aload_n hx hb dX0_conditionSensors_43 rfl (lv_at hl 0 rfl) ?_
          refine va_get (D := D) (ci := 0) (v := .ref a3) (C := RX0) (T := TX0) (N := 18) hx hb hts hinU hown hK hP 0 rfl rfl 3 (by decide) (hts (.fieldLink RX0 30 "BloodCircuitChannels" "implausibleTicks" "[I") (by decide +kernel)) (fun _ h9 => h9) rfl dX0_conditionSensors_44 ?_
          refine lv_iload_n hx hb dX0_conditionSensors_47 rfl (lv_at hl 1 rfl) ?_
          refine lv_iconst (v := 0) hx hb dX0_conditionSensors_48 (by decide +kernel) ?_
          refine va_iast hx hb hK hP hD hS 4 0 rfl rfl hin dX0_conditionSensors_49 (fun H locs hP hD hS => ?_)
          have hP : va_P D vwC2 (wdX cI h0 a0 a1 a2 a3 g4 g5 g6 g7 g8 g9 g10 g11 g12 g13 g14 g15 g16 g17 r0 r1 r2 (upd r3 x1.toNatClampNeg 0)) H := hP
          have hD : va_D A (wdX cI h0 a0 a1 a2 a3 g4 g5 g6 g7 g8 g9 g10 g11 g12 g13 g14 g15 g16 g17 r0 r1 r2 (upd r3 x1.toNatClampNeg 0)) := hD
          refine lv_aload_n hx hb dX0_conditionSensors_50 rfl (lv_at hl 0 rfl) ?_
          refine va_get (D := D) (ci := 0) (v := .ref a2) (C := RX0) (T := TX0) (N := 18) hx hb hts hinU hown hK hP 0 rfl rfl 2 (by decide) (hts (.fieldLink RX0 27 "BloodCircuitChannels" "conditioned" "[I") (by decide +kernel)) (fun _ h9 => h9) rfl dX0_conditionSensors_51 ?_
          refine lv_iload_n hx hb dX0_conditionSensors_54 rfl (lv_at hl 1 rfl) ?_
          refine lv_aload_n hx hb dX0_conditionSensors_55 rfl (lv_at hl 0 rfl) ?_
          refine va_get (D := D) (ci := 0) (v := .ref a1) (C := RX0) (T := TX0) (N := 18) hx hb hts hinU hown hK hP 0 rfl rfl 1 (by decide) (hts (.fieldLink RX0 24 "BloodCircuitChannels" "raw" "[I") (by decide +kernel)) (fun _ h9 => h9) rfl dX0_conditionSensors_56 ?_
          refine lv_iload_n hx hb dX0_conditionSensors_59 rfl (lv_at hl 1 rfl) ?_
          refine va_iald hx hb hK hP 2 0 rfl rfl hin dX0_conditionSensors_60 ?_
          refine va_iast hx hb hK hP hD hS 3 0 rfl rfl hin dX0_conditionSensors_61 (fun H locs hP hD hS => ?_)
          have hP : va_P D vwC2 (wdX cI h0 a0 a1 a2 a3 g4 g5 g6 g7 g8 g9 g10 g11 g12 g13 g14 g15 g16 g17 r0 r1 (upd r2 x1.toNatClampNeg (r1 x1.toNatClampNeg)) (upd r3 x1.toNatClampNeg 0)) H := hP
          have hD : va_D A (wdX cI h0 a0 a1 a2 a3 g4 g5 g6 g7 g8 g9 g10 g11 g12 g13 g14 g15 g16 g17 r0 r1 (upd r2 x1.toNatClampNeg (r1 x1.toNatClampNeg)) (upd r3 x1.toNatClampNeg 0)) := hD
          unfold bX_conditionSensors_62 at hX
          refine lv_iinc (k := 1) (v := x1 + 1) (lv' := [(1, .int (x1 + 1)), (0, .ref h0)]) hx hb dX0_conditionSensors_62 hl rfl (bw_inc1 _) (by decide) rfl (fun ls hl => ?_)
          refine lv_goto (tgt := 2) hx hb dX0_conditionSensors_65 (by decide) ?_
          exact ih k (by omega) (by omega) g4 g5 g6 g7 g8 g9 g10 g11 g12 g13 g14 g15 g16 g17 r0 r1 (upd r2 x1.toNatClampNeg (r1 x1.toNatClampNeg)) (upd r3 x1.toNatClampNeg 0) (x1 + 1) (bw_nx hi (by omega)) _ _ ls (lv_sub hl [1, 0] rfl) hP hD hS hX
        · rw [if_neg hc27] at hX
          unfold bX_conditionSensors_30 at hX
          refine lv_aload_n hx hb dX0_conditionSensors_30 rfl (lv_at hl 0 rfl) ?_
          refine va_get (D := D) (ci := 0) (v := .ref a3) (C := RX0) (T := TX0) (N := 18) hx hb hts hinU hown hK hP 0 rfl rfl 3 (by decide) (hts (.fieldLink RX0 30 "BloodCircuitChannels" "implausibleTicks" "[I") (by decide +kernel)) (fun _ h9 => h9) rfl dX0_conditionSensors_31 ?_
          refine lv_iload_n hx hb dX0_conditionSensors_34 rfl (lv_at hl 1 rfl) ?_
          refine lv_dup2_11 hx hb dX0_conditionSensors_35 rfl rfl ?_
          refine va_iald hx hb hK hP 4 0 rfl rfl hin dX0_conditionSensors_36 ?_
          refine lv_iconst (v := 1) hx hb dX0_conditionSensors_37 (by decide +kernel) ?_
          refine lv_iadd hx hb dX0_conditionSensors_38 ?_
          refine va_iast hx hb hK hP hD hS 4 0 rfl rfl hin dX0_conditionSensors_39 (fun H locs hP hD hS => ?_)
          have hP : va_P D vwC2 (wdX cI h0 a0 a1 a2 a3 g4 g5 g6 g7 g8 g9 g10 g11 g12 g13 g14 g15 g16 g17 r0 r1 r2 (upd r3 x1.toNatClampNeg ((r3 x1.toNatClampNeg) + 1))) H := hP
          have hD : va_D A (wdX cI h0 a0 a1 a2 a3 g4 g5 g6 g7 g8 g9 g10 g11 g12 g13 g14 g15 g16 g17 r0 r1 r2 (upd r3 x1.toNatClampNeg ((r3 x1.toNatClampNeg) + 1))) := hD
          refine lv_goto (tgt := 62) hx hb dX0_conditionSensors_40 (by decide) ?_
          unfold bX_conditionSensors_62 at hX
          refine lv_iinc (k := 1) (v := x1 + 1) (lv' := [(1, .int (x1 + 1)), (0, .ref h0)]) hx hb dX0_conditionSensors_62 hl rfl (bw_inc1 _) (by decide) rfl (fun ls hl => ?_)
          refine lv_goto (tgt := 2) hx hb dX0_conditionSensors_65 (by decide) ?_
          exact ih k (by omega) (by omega) g4 g5 g6 g7 g8 g9 g10 g11 g12 g13 g14 g15 g16 g17 r0 r1 r2 (upd r3 x1.toNatClampNeg ((r3 x1.toNatClampNeg) + 1)) (x1 + 1) (bw_nx hi (by omega)) _ _ ls (lv_sub hl [1, 0] rfl) hP hD hS hX
  unfold sX_conditionSensors at hX
  unfold bX_conditionSensors_0 at hX
  refine lv_iconst (v := 0) hx hb dX0_conditionSensors_0 (by decide +kernel) ?_
  refine lv_istore_n (lv' := [(1, .int 0), (0, .ref h0)]) hx hb dX0_conditionSensors_1 rfl hl (by decide) rfl (fun ls hl => ?_)
  exact JH2 7 6 (by omega) (by omega) g4 g5 g6 g7 g8 g9 g10 g11 g12 g13 g14 g15 g16 g17 r0 r1 r2 r3 0 (by decide +kernel) _ _ ls (lv_sub hl [1, 0] rfl) hP hD hS hX
abbrev rmX_isConnected : Room := { frames := 0, cells := 0, slots := 0, locals := 0 }
set_option maxHeartbeats 4000000 in
set_option maxRecDepth 100000 in
theorem ctX_isConnected (l : Launch) (D : va_G) (cI : ClassId) (h0 a0 a1 a2 a3 sz : Nat) (g4 g5 g6 g7 g8 g9 g10 g11 g12 g13 g14 g15 g16 g17 : Int32) (r0 r1 r2 r3 : Nat → Int32)   : Met l yX0_isConnected wsX0_isConnected rmX_isConnected (va_Pc [.ref h0] (bw_pr D vwC2 [(cI, .int)] (wdX cI h0 a0 a1 a2 a3 g4 g5 g6 g7 g8 g9 g10 g11 g12 g13 g14 g15 g16 g17 r0 r1 r2 r3) sz (tbX (va_A (wdX cI h0 a0 a1 a2 a3 g4 g5 g6 g7 g8 g9 g10 g11 g12 g13 g14 g15 g16 g17 r0 r1 r2 r3) sz)))) (va_Qi (fun r u => r = sX_isConnected g4 g5 g6 g7 g8 g9 g10 g11 g12 g13 g14 g15 g16 g17 r0 r1 r2 r3 ∧ u = (g4, g5, g6, g7, g8, g9, g10, g11, g12, g13, g14, g15, g16, g17, r0, r1, r2, r3)) (bw_at D vwC2 [(cI, .int)] (wfX cI h0 a0 a1 a2 a3) (va_A (wdX cI h0 a0 a1 a2 a3 g4 g5 g6 g7 g8 g9 g10 g11 g12 g13 g14 g15 g16 g17 r0 r1 r2 r3) sz)) (va_A (wdX cI h0 a0 a1 a2 a3 g4 g5 g6 g7 g8 g9 g10 g11 g12 g13 g14 g15 g16 g17 r0 r1 r2 r3) sz)) 0 0 (va_A (wdX cI h0 a0 a1 a2 a3 g4 g5 g6 g7 g8 g9 g10 g11 g12 g13 g14 g15 g16 g17 r0 r1 r2 r3) sz) := by
  refine Met.ofW (cc := cX0_isConnected) (maxL := 1) (ret := (some .boolean)) (by decide) rfl ?_
  intro p e s m args below meth c s₁ B hml hv
  obtain ⟨rfl, hsz, hP, hK, hD0, hT⟩ := hv
  have hx := B.exec
  have hb := B.bytes
  have hr := B.returns
  have hts := atoms_spec (ws := wsX0_isConnected) B.pre
  have hown : s.vm.findClass RX0 = some m.cls := findClass_of_methodNamed B.named
  have hlocks := B.notSynchronized
  subst hsz
  have hD := hD0.self (sz := s.heap.size)
  generalize hAe : va_A (wdX cI h0 a0 a1 a2 a3 g4 g5 g6 g7 g8 g9 g10 g11 g12 g13 g14 g15 g16 g17 r0 r1 r2 r3) s.heap.size = A at hD hT ⊢
  have hA : ∀ q : Nat, s.heap.size ≤ q → A q := fun q h => by rw [← hAe]; exact Or.inr h
  have hS : va_S A s.heap s.heap [] := va_S.rf
  have hl := lv_entry ([.ref h0]) (n := 1) (Nat.le_of_ble_eq_true rfl)
  rw [lg_entry_eq]
  generalize (lg_sl ([.ref h0]) ++ List.replicate (1 - (lg_sl ([.ref h0])).length) Slot.unset).toArray = ls at hl ⊢
  have hl : lv_has ls 1 [(0, .ref h0)] := hl
  generalize hX : sX_isConnected g4 g5 g6 g7 g8 g9 g10 g11 g12 g13 g14 g15 g16 g17 r0 r1 r2 r3 = X
  refine bw_Q (fun Q hQ => ?_)
  have hinU : ∀ w ∈ wsX00, w ∈ wsX0_isConnected := fun w h => List.mem_cons_of_mem _ (List.mem_append_right _ h)
  have J20 : ∀  (H : Heap) (locs : List Loc) (ls : Array Slot), lv_has ls 1 [(0, .ref h0)] → va_P D vwC2 (wdX cI h0 a0 a1 a2 a3 g4 g5 g6 g7 g8 g9 g10 g11 g12 g13 g14 g15 g16 g17 r0 r1 r2 r3) H → va_D A (wdX cI h0 a0 a1 a2 a3 g4 g5 g6 g7 g8 g9 g10 g11 g12 g13 g14 g15 g16 g17 r0 r1 r2 r3) → va_S A s.heap H locs → bX_isConnected_20 g4 g5 g6 g7 g8 g9 g10 g11 g12 g13 g14 g15 g16 g17 r0 r1 r2 r3 = X → W p l e (headSpec wsX0_isConnected rmX_isConnected).room s m ([.ref h0] : List Value).toArray below meth c H locs 0 0 Q (F0 m 20 ls []) := by
    intro  H locs ls hl hP hD hS hX
    unfold bX_isConnected_20 at hX
    refine lv_iconst (v := 0) hx hb dX0_isConnected_20 (by decide +kernel) ?_
    subst hQ
    exact W.zret (ty := .boolean) (v := 0) hx hb hr (by decide +kernel) (fun t ht hW => ⟨⟨0, (g4, g5, g6, g7, g8, g9, g10, g11, g12, g13, g14, g15, g16, g17, r0, r1, r2, r3), rfl, ⟨hX, rfl⟩, by rw [ht]; exact hP, va_K.moved hW.alike hK, hD⟩, hS.F ht⟩) hS.2.2 dX0_isConnected_21
  unfold sX_isConnected at hX
  unfold bX_isConnected_0 at hX
  refine lv_aload_n hx hb dX0_isConnected_0 rfl (lv_at hl 0 rfl) ?_
  refine va_get (D := D) (ci := 0) (v := .int g4) (C := RX0) (T := TX0) (N := 18) hx hb hts hinU hown hK hP 0 rfl rfl 4 (by decide) (hts (.fieldLink RX0 33 "BloodCircuitChannels" "phase" "I") (by decide +kernel)) (fun _ h9 => h9) rfl dX0_isConnected_1 ?_
  refine lv_iconst (v := 2) hx hb dX0_isConnected_4 (by decide +kernel) ?_
  refine lv_icmp_lt (tgt := 20) hx hb dX0_isConnected_5 (by decide) (fun hc5 => ?_) (fun hc5 => ?_)
  · rw [if_pos hc5] at hX
    exact J20  _ _ ls (lv_sub hl [0] rfl) hP hD hS hX
  · rw [if_neg hc5] at hX
    unfold bX_isConnected_8 at hX
    refine lv_aload_n hx hb dX0_isConnected_8 rfl (lv_at hl 0 rfl) ?_
    refine va_get (D := D) (ci := 0) (v := .int g4) (C := RX0) (T := TX0) (N := 18) hx hb hts hinU hown hK hP 0 rfl rfl 4 (by decide) (hts (.fieldLink RX0 33 "BloodCircuitChannels" "phase" "I") (by decide +kernel)) (fun _ h9 => h9) rfl dX0_isConnected_9 ?_
    refine lv_iconst (v := 4) hx hb dX0_isConnected_12 (by decide +kernel) ?_
    refine lv_icmp_gt (tgt := 20) hx hb dX0_isConnected_13 (by decide) (fun hc13 => ?_) (fun hc13 => ?_)
    · rw [if_pos hc13] at hX
      exact J20  _ _ ls (lv_sub hl [0] rfl) hP hD hS hX
    · rw [if_neg hc13] at hX
      unfold bX_isConnected_16 at hX
      refine lv_iconst (v := 1) hx hb dX0_isConnected_16 (by decide +kernel) ?_
      refine lv_goto (tgt := 21) hx hb dX0_isConnected_17 (by decide) ?_
      subst hQ
      exact W.zret (ty := .boolean) (v := 1) hx hb hr (by decide +kernel) (fun t ht hW => ⟨⟨1, (g4, g5, g6, g7, g8, g9, g10, g11, g12, g13, g14, g15, g16, g17, r0, r1, r2, r3), rfl, ⟨hX, rfl⟩, by rw [ht]; exact hP, va_K.moved hW.alike hK, hD⟩, hS.F ht⟩) hS.2.2 dX0_isConnected_21
abbrev rmX_isFluidOff : Room := { frames := 1, cells := 0, slots := 0, locals := 21 }
set_option maxHeartbeats 4000000 in
set_option maxRecDepth 100000 in
theorem ctX_isFluidOff (l : Launch) (D : va_G) (cI : ClassId) (h0 a0 a1 a2 a3 sz : Nat) (g4 g5 g6 g7 g8 g9 g10 g11 g12 g13 g14 g15 g16 g17 : Int32) (r0 r1 r2 r3 : Nat → Int32)   : Met l yX0_isFluidOff wsX0_isFluidOff rmX_isFluidOff (va_Pc [.ref h0] (bw_pr D vwC2 [(cI, .int)] (wdX cI h0 a0 a1 a2 a3 g4 g5 g6 g7 g8 g9 g10 g11 g12 g13 g14 g15 g16 g17 r0 r1 r2 r3) sz (tbX (va_A (wdX cI h0 a0 a1 a2 a3 g4 g5 g6 g7 g8 g9 g10 g11 g12 g13 g14 g15 g16 g17 r0 r1 r2 r3) sz)))) (va_Qi (fun r u => r = sX_isFluidOff g4 g5 g6 g7 g8 g9 g10 g11 g12 g13 g14 g15 g16 g17 r0 r1 r2 r3 ∧ u = (g4, g5, g6, g7, g8, g9, g10, g11, g12, g13, g14, g15, g16, g17, r0, r1, r2, r3)) (bw_at D vwC2 [(cI, .int)] (wfX cI h0 a0 a1 a2 a3) (va_A (wdX cI h0 a0 a1 a2 a3 g4 g5 g6 g7 g8 g9 g10 g11 g12 g13 g14 g15 g16 g17 r0 r1 r2 r3) sz)) (va_A (wdX cI h0 a0 a1 a2 a3 g4 g5 g6 g7 g8 g9 g10 g11 g12 g13 g14 g15 g16 g17 r0 r1 r2 r3) sz)) 0 0 (va_A (wdX cI h0 a0 a1 a2 a3 g4 g5 g6 g7 g8 g9 g10 g11 g12 g13 g14 g15 g16 g17 r0 r1 r2 r3) sz) := by
  refine Met.ofW (cc := cX0_isFluidOff) (maxL := 1) (ret := (some .boolean)) (by decide) rfl ?_
  intro p e s m args below meth c s₁ B hml hv
  obtain ⟨rfl, hsz, hP, hK, hD0, hT⟩ := hv
  have hx := B.exec
  have hb := B.bytes
  have hr := B.returns
  have hts := atoms_spec (ws := wsX0_isFluidOff) B.pre
  have hown : s.vm.findClass RX0 = some m.cls := findClass_of_methodNamed B.named
  have hlocks := B.notSynchronized
  subst hsz
  have hD := hD0.self (sz := s.heap.size)
  generalize hAe : va_A (wdX cI h0 a0 a1 a2 a3 g4 g5 g6 g7 g8 g9 g10 g11 g12 g13 g14 g15 g16 g17 r0 r1 r2 r3) s.heap.size = A at hD hT ⊢
  have hA : ∀ q : Nat, s.heap.size ≤ q → A q := fun q h => by rw [← hAe]; exact Or.inr h
  have hS : va_S A s.heap s.heap [] := va_S.rf
  have hl := lv_entry ([.ref h0]) (n := 1) (Nat.le_of_ble_eq_true rfl)
  rw [lg_entry_eq]
  generalize (lg_sl ([.ref h0]) ++ List.replicate (1 - (lg_sl ([.ref h0])).length) Slot.unset).toArray = ls at hl ⊢
  have hl : lv_has ls 1 [(0, .ref h0)] := hl
  generalize hX : sX_isFluidOff g4 g5 g6 g7 g8 g9 g10 g11 g12 g13 g14 g15 g16 g17 r0 r1 r2 r3 = X
  refine bw_Q (fun Q hQ => ?_)
  have hinU : ∀ w ∈ wsX00, w ∈ wsX0_isFluidOff := fun w h => List.mem_cons_of_mem _ (List.mem_append_right _ h)
  have J41 : ∀  (H : Heap) (locs : List Loc) (ls : Array Slot), lv_has ls 1 [(0, .ref h0)] → va_P D vwC2 (wdX cI h0 a0 a1 a2 a3 g4 g5 g6 g7 g8 g9 g10 g11 g12 g13 g14 g15 g16 g17 r0 r1 r2 r3) H → va_D A (wdX cI h0 a0 a1 a2 a3 g4 g5 g6 g7 g8 g9 g10 g11 g12 g13 g14 g15 g16 g17 r0 r1 r2 r3) → va_S A s.heap H locs → bX_isFluidOff_41 g4 g5 g6 g7 g8 g9 g10 g11 g12 g13 g14 g15 g16 g17 r0 r1 r2 r3 = X → W p l e (headSpec wsX0_isFluidOff rmX_isFluidOff).room s m ([.ref h0] : List Value).toArray below meth c H locs 0 0 Q (F0 m 41 ls []) := by
    intro  H locs ls hl hP hD hS hX
    unfold bX_isFluidOff_41 at hX
    refine lv_iconst (v := 1) hx hb dX0_isFluidOff_41 (by decide +kernel) ?_
    refine lv_goto (tgt := 46) hx hb dX0_isFluidOff_42 (by decide) ?_
    subst hQ
    exact W.zret (ty := .boolean) (v := 1) hx hb hr (by decide +kernel) (fun t ht hW => ⟨⟨1, (g4, g5, g6, g7, g8, g9, g10, g11, g12, g13, g14, g15, g16, g17, r0, r1, r2, r3), rfl, ⟨hX, rfl⟩, by rw [ht]; exact hP, va_K.moved hW.alike hK, hD⟩, hS.F ht⟩) hS.2.2 dX0_isFluidOff_46
  unfold sX_isFluidOff at hX
  unfold bX_isFluidOff_0 at hX
  refine lv_aload_n hx hb dX0_isFluidOff_0 rfl (lv_at hl 0 rfl) ?_
  refine va_get (D := D) (ci := 0) (v := .ref a2) (C := RX0) (T := TX0) (N := 18) hx hb hts hinU hown hK hP 0 rfl rfl 2 (by decide) (hts (.fieldLink RX0 27 "BloodCircuitChannels" "conditioned" "[I") (by decide +kernel)) (fun _ h9 => h9) rfl dX0_isFluidOff_1 ?_
  refine lv_iconst (v := 2) hx hb dX0_isFluidOff_4 (by decide +kernel) ?_
  refine bw_ld hx hb hK hP 3 0 rfl rfl 2 (by decide +kernel) (bw_in (by decide +kernel)) dX0_isFluidOff_5 ?_
  refine lv_aload_n hx hb dX0_isFluidOff_6 rfl (lv_at hl 0 rfl) ?_
  refine va_get (D := D) (ci := 0) (v := .ref a0) (C := RX0) (T := TX0) (N := 18) hx hb hts hinU hown hK hP 0 rfl rfl 0 (by decide) (hts (.fieldLink RX0 18 "BloodCircuitChannels" "parameters" "[I") (by decide +kernel)) (fun _ h9 => h9) rfl dX0_isFluidOff_7 ?_
  refine lv_iconst (v := 4) hx hb dX0_isFluidOff_10 (by decide +kernel) ?_
  refine bw_ld hx hb hK hP 1 0 rfl rfl 4 (by decide +kernel) (bw_in (by decide +kernel)) dX0_isFluidOff_11 ?_
  refine lv_isub hx hb dX0_isFluidOff_12 ?_
  refine va_mabs hx hb (by rw [hml]; exact hl.1.symm) hown (hts (.methodLink RX0 139 Lib.Math.abs.name) (by decide +kernel)) (hts (.static Lib.Math.abs.name) (by decide +kernel)) (hts (.initialized "java/lang/Math") (by decide +kernel)) (hts _ (List.mem_cons_of_mem _ (List.mem_append_left _ (List.mem_of_getElem? (i := 5) rfl)))) (Nat.le_of_ble_eq_true rfl) (Nat.le_of_ble_eq_true rfl) (Nat.le_of_ble_eq_true rfl) (Nat.le_of_ble_eq_true rfl) dX0_isFluidOff_13 ?_
  refine lv_iconst (v := 5) hx hb dX0_isFluidOff_16 (by decide +kernel) ?_
  refine lv_icmp_gt (tgt := 41) hx hb dX0_isFluidOff_17 (by decide) (fun hc17 => ?_) (fun hc17 => ?_)
  · rw [if_pos hc17] at hX
    exact J41  _ _ ls (lv_sub hl [0] rfl) hP hD hS hX
  · rw [if_neg hc17] at hX
    unfold bX_isFluidOff_20 at hX
    refine lv_aload_n hx hb dX0_isFluidOff_20 rfl (lv_at hl 0 rfl) ?_
    refine va_get (D := D) (ci := 0) (v := .ref a2) (C := RX0) (T := TX0) (N := 18) hx hb hts hinU hown hK hP 0 rfl rfl 2 (by decide) (hts (.fieldLink RX0 27 "BloodCircuitChannels" "conditioned" "[I") (by decide +kernel)) (fun _ h9 => h9) rfl dX0_isFluidOff_21 ?_
    refine lv_iconst (v := 3) hx hb dX0_isFluidOff_24 (by decide +kernel) ?_
    refine bw_ld hx hb hK hP 3 0 rfl rfl 3 (by decide +kernel) (bw_in (by decide +kernel)) dX0_isFluidOff_25 ?_
    refine lv_aload_n hx hb dX0_isFluidOff_26 rfl (lv_at hl 0 rfl) ?_
    refine va_get (D := D) (ci := 0) (v := .ref a0) (C := RX0) (T := TX0) (N := 18) hx hb hts hinU hown hK hP 0 rfl rfl 0 (by decide) (hts (.fieldLink RX0 18 "BloodCircuitChannels" "parameters" "[I") (by decide +kernel)) (fun _ h9 => h9) rfl dX0_isFluidOff_27 ?_
    refine lv_iconst (v := 5) hx hb dX0_isFluidOff_30 (by decide +kernel) ?_
    refine bw_ld hx hb hK hP 1 0 rfl rfl 5 (by decide +kernel) (bw_in (by decide +kernel)) dX0_isFluidOff_31 ?_
    refine lv_isub hx hb dX0_isFluidOff_32 ?_
    refine va_mabs hx hb (by rw [hml]; exact hl.1.symm) hown (hts (.methodLink RX0 139 Lib.Math.abs.name) (by decide +kernel)) (hts (.static Lib.Math.abs.name) (by decide +kernel)) (hts (.initialized "java/lang/Math") (by decide +kernel)) (hts _ (List.mem_cons_of_mem _ (List.mem_append_left _ (List.mem_of_getElem? (i := 5) rfl)))) (Nat.le_of_ble_eq_true rfl) (Nat.le_of_ble_eq_true rfl) (Nat.le_of_ble_eq_true rfl) (Nat.le_of_ble_eq_true rfl) dX0_isFluidOff_33 ?_
    refine lv_bipush (v := 40) hx hb dX0_isFluidOff_36 (by decide +kernel) ?_
    refine lv_icmp_le (tgt := 45) hx hb dX0_isFluidOff_38 (by decide) (fun hc38 => ?_) (fun hc38 => ?_)
    · rw [if_pos hc38] at hX
      unfold bX_isFluidOff_45 at hX
      refine lv_iconst (v := 0) hx hb dX0_isFluidOff_45 (by decide +kernel) ?_
      subst hQ
      exact W.zret (ty := .boolean) (v := 0) hx hb hr (by decide +kernel) (fun t ht hW => ⟨⟨0, (g4, g5, g6, g7, g8, g9, g10, g11, g12, g13, g14, g15, g16, g17, r0, r1, r2, r3), rfl, ⟨hX, rfl⟩, by rw [ht]; exact hP, va_K.moved hW.alike hK, hD⟩, hS.F ht⟩) hS.2.2 dX0_isFluidOff_46
    · rw [if_neg hc38] at hX
      exact J41  _ _ ls (lv_sub hl [0] rfl) hP hD hS hX
abbrev rmX_countTicksInARow : Room := { frames := 2, cells := 0, slots := 0, locals := 41 }
set_option maxHeartbeats 4000000 in
set_option maxRecDepth 100000 in
theorem ctX_countTicksInARow (l : Launch) (D : va_G) (cI : ClassId) (h0 a0 a1 a2 a3 sz : Nat) (g4 g5 g6 g7 g8 g9 g10 g11 g12 g13 g14 g15 g16 g17 : Int32) (r0 r1 r2 r3 : Nat → Int32)   : Met l yX0_countTicksInARow wsX0_countTicksInARow rmX_countTicksInARow (va_Pc [.ref h0] (bw_pr D vwC2 [(cI, .int)] (wdX cI h0 a0 a1 a2 a3 g4 g5 g6 g7 g8 g9 g10 g11 g12 g13 g14 g15 g16 g17 r0 r1 r2 r3) sz (tbX (va_A (wdX cI h0 a0 a1 a2 a3 g4 g5 g6 g7 g8 g9 g10 g11 g12 g13 g14 g15 g16 g17 r0 r1 r2 r3) sz)))) (va_Qv (fun u => u = sX_countTicksInARow g4 g5 g6 g7 g8 g9 g10 g11 g12 g13 g14 g15 g16 g17 r0 r1 r2 r3) (bw_at D vwC2 [(cI, .int)] (wfX cI h0 a0 a1 a2 a3) (va_A (wdX cI h0 a0 a1 a2 a3 g4 g5 g6 g7 g8 g9 g10 g11 g12 g13 g14 g15 g16 g17 r0 r1 r2 r3) sz)) (va_A (wdX cI h0 a0 a1 a2 a3 g4 g5 g6 g7 g8 g9 g10 g11 g12 g13 g14 g15 g16 g17 r0 r1 r2 r3) sz)) 0 0 (va_A (wdX cI h0 a0 a1 a2 a3 g4 g5 g6 g7 g8 g9 g10 g11 g12 g13 g14 g15 g16 g17 r0 r1 r2 r3) sz) := by
  refine Met.ofW (cc := cX0_countTicksInARow) (maxL := 5) (ret := none) (by decide) rfl ?_
  intro p e s m args below meth c s₁ B hml hv
  obtain ⟨rfl, hsz, hP, hK, hD0, hT⟩ := hv
  have hx := B.exec
  have hb := B.bytes
  have hr := B.returns
  have hts := atoms_spec (ws := wsX0_countTicksInARow) B.pre
  have hown : s.vm.findClass RX0 = some m.cls := findClass_of_methodNamed B.named
  have hlocks := B.notSynchronized
  subst hsz
  have hD := hD0.self (sz := s.heap.size)
  generalize hAe : va_A (wdX cI h0 a0 a1 a2 a3 g4 g5 g6 g7 g8 g9 g10 g11 g12 g13 g14 g15 g16 g17 r0 r1 r2 r3) s.heap.size = A at hD hT ⊢
  have hA : ∀ q : Nat, s.heap.size ≤ q → A q := fun q h => by rw [← hAe]; exact Or.inr h
  have hS : va_S A s.heap s.heap [] := va_S.rf
  have hl := lv_entry ([.ref h0]) (n := 5) (Nat.le_of_ble_eq_true rfl)
  rw [lg_entry_eq]
  generalize (lg_sl ([.ref h0]) ++ List.replicate (5 - (lg_sl ([.ref h0])).length) Slot.unset).toArray = ls at hl ⊢
  have hl : lv_has ls 5 [(0, .ref h0)] := hl
  generalize hX : sX_countTicksInARow g4 g5 g6 g7 g8 g9 g10 g11 g12 g13 g14 g15 g16 g17 r0 r1 r2 r3 = X
  refine bw_Q (fun Q hQ => ?_)
  have hinU : ∀ w ∈ wsX00, w ∈ wsX0_countTicksInARow := fun w h => List.mem_cons_of_mem _ (List.mem_append_right _ h)
  have J138 : ∀ (g4 g5 g6 g7 g8 g9 g10 g11 g12 g13 g14 g15 g16 g17 : Int32) (r0 r1 r2 r3 : Nat → Int32) (y0 : Int32) (H : Heap) (locs : List Loc) (ls : Array Slot), lv_has ls 5 [(0, .ref h0)] → va_P D vwC2 (wdX cI h0 a0 a1 a2 a3 g4 g5 g6 g7 g8 g9 g10 g11 g12 g13 g14 g15 g16 g17 r0 r1 r2 r3) H → va_D A (wdX cI h0 a0 a1 a2 a3 g4 g5 g6 g7 g8 g9 g10 g11 g12 g13 g14 g15 g16 g17 r0 r1 r2 r3) → va_S A s.heap H locs → bX_countTicksInARow_138 g4 g5 g6 g7 g8 g9 g10 g11 g12 g13 g14 g15 g16 g17 r0 r1 r2 r3 y0 = X → W p l e (headSpec wsX0_countTicksInARow rmX_countTicksInARow).room s m ([.ref h0] : List Value).toArray below meth c H locs 0 0 Q (F0 m 138 ls [.int y0, .ref h0]) := by
    intro g4 g5 g6 g7 g8 g9 g10 g11 g12 g13 g14 g15 g16 g17 r0 r1 r2 r3 y0 H locs ls hl hP hD hS hX
    unfold bX_countTicksInARow_138 at hX
    refine va_put (D := D) (ci := 0) (v := .int y0) (ty := .int) (C := RX0) (T := TX0) (N := 18) hx hb hts hinU tyX0 tyX0_ok nmX0 hown hK hP hD hS 0 rfl rfl 14 (by decide) (hts (.fieldLink RX0 92 "BloodCircuitChannels" "steadyTicks" "I") (by decide +kernel)) (fun _ h9 => h9) rfl (by decide +kernel) rfl rfl (Nat.le_of_ble_eq_true rfl) dX0_countTicksInARow_138 (fun H locs hP hD hS => ?_)
    have hP : va_P D vwC2 (wdX cI h0 a0 a1 a2 a3 g4 g5 g6 g7 g8 g9 g10 g11 g12 g13 y0 g15 g16 g17 r0 r1 r2 r3) H := hP
    have hD : va_D A (wdX cI h0 a0 a1 a2 a3 g4 g5 g6 g7 g8 g9 g10 g11 g12 g13 y0 g15 g16 g17 r0 r1 r2 r3) := hD
    subst hQ
    exact W.vret hx hb hr (fun t ht hW => ⟨⟨(g4, g5, g6, g7, g8, g9, g10, g11, g12, g13, y0, g15, g16, g17, r0, r1, r2, r3), rfl, hX, by rw [ht]; exact hP, va_K.moved hW.alike hK, hD⟩, hS.F ht⟩) hS.2.2 dX0_countTicksInARow_141
  have J119 : ∀ (g4 g5 g6 g7 g8 g9 g10 g11 g12 g13 g14 g15 g16 g17 : Int32) (r0 r1 r2 r3 : Nat → Int32) (x4 : Int32) (y0 : Int32) (H : Heap) (locs : List Loc) (ls : Array Slot), lv_has ls 5 [(0, .ref h0), (4, .int x4)] → va_P D vwC2 (wdX cI h0 a0 a1 a2 a3 g4 g5 g6 g7 g8 g9 g10 g11 g12 g13 g14 g15 g16 g17 r0 r1 r2 r3) H → va_D A (wdX cI h0 a0 a1 a2 a3 g4 g5 g6 g7 g8 g9 g10 g11 g12 g13 g14 g15 g16 g17 r0 r1 r2 r3) → va_S A s.heap H locs → bX_countTicksInARow_119 g4 g5 g6 g7 g8 g9 g10 g11 g12 g13 g14 g15 g16 g17 r0 r1 r2 r3 x4 y0 = X → W p l e (headSpec wsX0_countTicksInARow rmX_countTicksInARow).room s m ([.ref h0] : List Value).toArray below meth c H locs 0 0 Q (F0 m 119 ls [.int y0, .ref h0]) := by
    intro g4 g5 g6 g7 g8 g9 g10 g11 g12 g13 g14 g15 g16 g17 r0 r1 r2 r3 x4 y0 H locs ls hl hP hD hS hX
    unfold bX_countTicksInARow_119 at hX
    refine va_put (D := D) (ci := 0) (v := .int y0) (ty := .int) (C := RX0) (T := TX0) (N := 18) hx hb hts hinU tyX0 tyX0_ok nmX0 hown hK hP hD hS 0 rfl rfl 15 (by decide) (hts (.fieldLink RX0 136 "BloodCircuitChannels" "fluidOffTicks" "I") (by decide +kernel)) (fun _ h9 => h9) rfl (by decide +kernel) rfl rfl (Nat.le_of_ble_eq_true rfl) dX0_countTicksInARow_119 (fun H locs hP hD hS => ?_)
    have hP : va_P D vwC2 (wdX cI h0 a0 a1 a2 a3 g4 g5 g6 g7 g8 g9 g10 g11 g12 g13 g14 y0 g16 g17 r0 r1 r2 r3) H := hP
    have hD : va_D A (wdX cI h0 a0 a1 a2 a3 g4 g5 g6 g7 g8 g9 g10 g11 g12 g13 g14 y0 g16 g17 r0 r1 r2 r3) := hD
    refine lv_aload_n hx hb dX0_countTicksInARow_122 rfl (lv_at hl 0 rfl) ?_
    refine lv_iload hx hb dX0_countTicksInARow_123 (lv_at hl 1 rfl) ?_
    refine lv_if_eq (tgt := 132) hx hb dX0_countTicksInARow_125 (by decide) (fun hc125 => ?_) (fun hc125 => ?_)
    · rw [if_pos hc125] at hX
      unfold bX_countTicksInARow_132 at hX
      refine lv_aload_n hx hb dX0_countTicksInARow_132 rfl (lv_at hl 0 rfl) ?_
      refine va_get (D := D) (ci := 0) (v := .int g14) (C := RX0) (T := TX0) (N := 18) hx hb hts hinU hown hK hP 0 rfl rfl 14 (by decide) (hts (.fieldLink RX0 92 "BloodCircuitChannels" "steadyTicks" "I") (by decide +kernel)) (fun _ h9 => h9) rfl dX0_countTicksInARow_133 ?_
      refine lv_iconst (v := 1) hx hb dX0_countTicksInARow_136 (by decide +kernel) ?_
      refine lv_iadd hx hb dX0_countTicksInARow_137 ?_
      exact J138 g4 g5 g6 g7 g8 g9 g10 g11 g12 g13 g14 y0 g16 g17 r0 r1 r2 r3 (g14 + 1) _ _ ls (lv_sub hl [0] rfl) hP hD hS hX
    · rw [if_neg hc125] at hX
      unfold bX_countTicksInARow_128 at hX
      refine lv_iconst (v := 0) hx hb dX0_countTicksInARow_128 (by decide +kernel) ?_
      refine lv_goto (tgt := 138) hx hb dX0_countTicksInARow_129 (by decide) ?_
      exact J138 g4 g5 g6 g7 g8 g9 g10 g11 g12 g13 g14 y0 g16 g17 r0 r1 r2 r3 0 _ _ ls (lv_sub hl [0] rfl) hP hD hS hX
  have J100 : ∀ (g4 g5 g6 g7 g8 g9 g10 g11 g12 g13 g14 g15 g16 g17 : Int32) (r0 r1 r2 r3 : Nat → Int32) (x4 : Int32) (y0 : Int32) (H : Heap) (locs : List Loc) (ls : Array Slot), lv_has ls 5 [(0, .ref h0), (4, .int x4)] → va_P D vwC2 (wdX cI h0 a0 a1 a2 a3 g4 g5 g6 g7 g8 g9 g10 g11 g12 g13 g14 g15 g16 g17 r0 r1 r2 r3) H → va_D A (wdX cI h0 a0 a1 a2 a3 g4 g5 g6 g7 g8 g9 g10 g11 g12 g13 g14 g15 g16 g17 r0 r1 r2 r3) → va_S A s.heap H locs → bX_countTicksInARow_100 g4 g5 g6 g7 g8 g9 g10 g11 g12 g13 g14 g15 g16 g17 r0 r1 r2 r3 x4 y0 = X → W p l e (headSpec wsX0_countTicksInARow rmX_countTicksInARow).room s m ([.ref h0] : List Value).toArray below meth c H locs 0 0 Q (F0 m 100 ls [.int y0, .ref h0]) := by
    intro g4 g5 g6 g7 g8 g9 g10 g11 g12 g13 g14 g15 g16 g17 r0 r1 r2 r3 x4 y0 H locs ls hl hP hD hS hX
    unfold bX_countTicksInARow_100 at hX
    refine va_put (D := D) (ci := 0) (v := .int y0) (ty := .int) (C := RX0) (T := TX0) (N := 18) hx hb hts hinU tyX0 tyX0_ok nmX0 hown hK hP hD hS 0 rfl rfl 17 (by decide) (hts (.fieldLink RX0 133 "BloodCircuitChannels" "venousOutTicks" "I") (by decide +kernel)) (fun _ h9 => h9) rfl (by decide +kernel) rfl rfl (Nat.le_of_ble_eq_true rfl) dX0_countTicksInARow_100 (fun H locs hP hD hS => ?_)
    have hP : va_P D vwC2 (wdX cI h0 a0 a1 a2 a3 g4 g5 g6 g7 g8 g9 g10 g11 g12 g13 g14 g15 g16 y0 r0 r1 r2 r3) H := hP
    have hD : va_D A (wdX cI h0 a0 a1 a2 a3 g4 g5 g6 g7 g8 g9 g10 g11 g12 g13 g14 g15 g16 y0 r0 r1 r2 r3) := hD
    refine lv_aload_n hx hb dX0_countTicksInARow_103 rfl (lv_at hl 0 rfl) ?_
    refine lv_iload hx hb dX0_countTicksInARow_104 (lv_at hl 1 rfl) ?_
    refine lv_if_eq (tgt := 118) hx hb dX0_countTicksInARow_106 (by decide) (fun hc106 => ?_) (fun hc106 => ?_)
    · rw [if_pos hc106] at hX
      unfold bX_countTicksInARow_118 at hX
      refine lv_iconst (v := 0) hx hb dX0_countTicksInARow_118 (by decide +kernel) ?_
      exact J119 g4 g5 g6 g7 g8 g9 g10 g11 g12 g13 g14 g15 g16 y0 r0 r1 r2 r3 x4 0 _ _ ls (lv_sub hl [0, 1] rfl) hP hD hS hX
    · rw [if_neg hc106] at hX
      unfold bX_countTicksInARow_109 at hX
      refine lv_aload_n hx hb dX0_countTicksInARow_109 rfl (lv_at hl 0 rfl) ?_
      refine va_get (D := D) (ci := 0) (v := .int g15) (C := RX0) (T := TX0) (N := 18) hx hb hts hinU hown hK hP 0 rfl rfl 15 (by decide) (hts (.fieldLink RX0 136 "BloodCircuitChannels" "fluidOffTicks" "I") (by decide +kernel)) (fun _ h9 => h9) rfl dX0_countTicksInARow_110 ?_
      refine lv_iconst (v := 1) hx hb dX0_countTicksInARow_113 (by decide +kernel) ?_
      refine lv_iadd hx hb dX0_countTicksInARow_114 ?_
      refine lv_goto (tgt := 119) hx hb dX0_countTicksInARow_115 (by decide) ?_
      exact J119 g4 g5 g6 g7 g8 g9 g10 g11 g12 g13 g14 g15 g16 y0 r0 r1 r2 r3 x4 (g15 + 1) _ _ ls (lv_sub hl [0, 1] rfl) hP hD hS hX
  have J99 : ∀ (g4 g5 g6 g7 g8 g9 g10 g11 g12 g13 g14 g15 g16 g17 : Int32) (r0 r1 r2 r3 : Nat → Int32) (x4 : Int32) (H : Heap) (locs : List Loc) (ls : Array Slot), lv_has ls 5 [(0, .ref h0), (4, .int x4)] → va_P D vwC2 (wdX cI h0 a0 a1 a2 a3 g4 g5 g6 g7 g8 g9 g10 g11 g12 g13 g14 g15 g16 g17 r0 r1 r2 r3) H → va_D A (wdX cI h0 a0 a1 a2 a3 g4 g5 g6 g7 g8 g9 g10 g11 g12 g13 g14 g15 g16 g17 r0 r1 r2 r3) → va_S A s.heap H locs → bX_countTicksInARow_99 g4 g5 g6 g7 g8 g9 g10 g11 g12 g13 g14 g15 g16 g17 r0 r1 r2 r3 x4 = X → W p l e (headSpec wsX0_countTicksInARow rmX_countTicksInARow).room s m ([.ref h0] : List Value).toArray below meth c H locs 0 0 Q (F0 m 99 ls [.ref h0]) := by
    intro g4 g5 g6 g7 g8 g9 g10 g11 g12 g13 g14 g15 g16 g17 r0 r1 r2 r3 x4 H locs ls hl hP hD hS hX
    unfold bX_countTicksInARow_99 at hX
    refine lv_iconst (v := 0) hx hb dX0_countTicksInARow_99 (by decide +kernel) ?_
    exact J100 g4 g5 g6 g7 g8 g9 g10 g11 g12 g13 g14 g15 g16 g17 r0 r1 r2 r3 x4 0 _ _ ls (lv_sub hl [0, 1] rfl) hP hD hS hX
  have J78 : ∀ (g4 g5 g6 g7 g8 g9 g10 g11 g12 g13 g14 g15 g16 g17 : Int32) (r0 r1 r2 r3 : Nat → Int32) (x1 : Int32) (x3 : Int32) (x4 : Int32) (y0 : Int32) (H : Heap) (locs : List Loc) (ls : Array Slot), lv_has ls 5 [(0, .ref h0), (1, .int x1), (3, .int x3), (4, .int x4)] → va_P D vwC2 (wdX cI h0 a0 a1 a2 a3 g4 g5 g6 g7 g8 g9 g10 g11 g12 g13 g14 g15 g16 g17 r0 r1 r2 r3) H → va_D A (wdX cI h0 a0 a1 a2 a3 g4 g5 g6 g7 g8 g9 g10 g11 g12 g13 g14 g15 g16 g17 r0 r1 r2 r3) → va_S A s.heap H locs → bX_countTicksInARow_78 g4 g5 g6 g7 g8 g9 g10 g11 g12 g13 g14 g15 g16 g17 r0 r1 r2 r3 x1 x3 x4 y0 = X → W p l e (headSpec wsX0_countTicksInARow rmX_countTicksInARow).room s m ([.ref h0] : List Value).toArray below meth c H locs 0 0 Q (F0 m 78 ls [.int y0, .ref h0]) := by
    intro g4 g5 g6 g7 g8 g9 g10 g11 g12 g13 g14 g15 g16 g17 r0 r1 r2 r3 x1 x3 x4 y0 H locs ls hl hP hD hS hX
    unfold bX_countTicksInARow_78 at hX
    refine va_put (D := D) (ci := 0) (v := .int y0) (ty := .int) (C := RX0) (T := TX0) (N := 18) hx hb hts hinU tyX0 tyX0_ok nmX0 hown hK hP hD hS 0 rfl rfl 16 (by decide) (hts (.fieldLink RX0 130 "BloodCircuitChannels" "arterialOutTicks" "I") (by decide +kernel)) (fun _ h9 => h9) rfl (by decide +kernel) rfl rfl (Nat.le_of_ble_eq_true rfl) dX0_countTicksInARow_78 (fun H locs hP hD hS => ?_)
    have hP : va_P D vwC2 (wdX cI h0 a0 a1 a2 a3 g4 g5 g6 g7 g8 g9 g10 g11 g12 g13 g14 g15 y0 g17 r0 r1 r2 r3) H := hP
    have hD : va_D A (wdX cI h0 a0 a1 a2 a3 g4 g5 g6 g7 g8 g9 g10 g11 g12 g13 g14 g15 y0 g17 r0 r1 r2 r3) := hD
    refine lv_aload_n hx hb dX0_countTicksInARow_81 rfl (lv_at hl 0 rfl) ?_
    refine lv_iload_n hx hb dX0_countTicksInARow_82 rfl (lv_at hl 1 rfl) ?_
    refine lv_if_eq (tgt := 99) hx hb dX0_countTicksInARow_83 (by decide) (fun hc83 => ?_) (fun hc83 => ?_)
    · rw [if_pos hc83] at hX
      exact J99 g4 g5 g6 g7 g8 g9 g10 g11 g12 g13 g14 g15 y0 g17 r0 r1 r2 r3 x4 _ _ ls (lv_sub hl [0, 3] rfl) hP hD hS hX
    · rw [if_neg hc83] at hX
      unfold bX_countTicksInARow_86 at hX
      refine lv_iload_n hx hb dX0_countTicksInARow_86 rfl (lv_at hl 2 rfl) ?_
      refine lv_if_eq (tgt := 99) hx hb dX0_countTicksInARow_87 (by decide) (fun hc87 => ?_) (fun hc87 => ?_)
      · rw [if_pos hc87] at hX
        exact J99 g4 g5 g6 g7 g8 g9 g10 g11 g12 g13 g14 g15 y0 g17 r0 r1 r2 r3 x4 _ _ ls (lv_sub hl [0, 3] rfl) hP hD hS hX
      · rw [if_neg hc87] at hX
        unfold bX_countTicksInARow_90 at hX
        refine lv_aload_n hx hb dX0_countTicksInARow_90 rfl (lv_at hl 0 rfl) ?_
        refine va_get (D := D) (ci := 0) (v := .int g17) (C := RX0) (T := TX0) (N := 18) hx hb hts hinU hown hK hP 0 rfl rfl 17 (by decide) (hts (.fieldLink RX0 133 "BloodCircuitChannels" "venousOutTicks" "I") (by decide +kernel)) (fun _ h9 => h9) rfl dX0_countTicksInARow_91 ?_
        refine lv_iconst (v := 1) hx hb dX0_countTicksInARow_94 (by decide +kernel) ?_
        refine lv_iadd hx hb dX0_countTicksInARow_95 ?_
        refine lv_goto (tgt := 100) hx hb dX0_countTicksInARow_96 (by decide) ?_
        exact J100 g4 g5 g6 g7 g8 g9 g10 g11 g12 g13 g14 g15 y0 g17 r0 r1 r2 r3 x4 (g17 + 1) _ _ ls (lv_sub hl [0, 3] rfl) hP hD hS hX
  have J77 : ∀ (g4 g5 g6 g7 g8 g9 g10 g11 g12 g13 g14 g15 g16 g17 : Int32) (r0 r1 r2 r3 : Nat → Int32) (x1 : Int32) (x3 : Int32) (x4 : Int32) (H : Heap) (locs : List Loc) (ls : Array Slot), lv_has ls 5 [(0, .ref h0), (1, .int x1), (3, .int x3), (4, .int x4)] → va_P D vwC2 (wdX cI h0 a0 a1 a2 a3 g4 g5 g6 g7 g8 g9 g10 g11 g12 g13 g14 g15 g16 g17 r0 r1 r2 r3) H → va_D A (wdX cI h0 a0 a1 a2 a3 g4 g5 g6 g7 g8 g9 g10 g11 g12 g13 g14 g15 g16 g17 r0 r1 r2 r3) → va_S A s.heap H locs → bX_countTicksInARow_77 g4 g5 g6 g7 g8 g9 g10 g11 g12 g13 g14 g15 g16 g17 r0 r1 r2 r3 x1 x3 x4 = X → W p l e (headSpec wsX0_countTicksInARow rmX_countTicksInARow).room s m ([.ref h0] : List Value).toArray below meth c H locs 0 0 Q (F0 m 77 ls [.ref h0]) := by
    intro g4 g5 g6 g7 g8 g9 g10 g11 g12 g13 g14 g15 g16 g17 r0 r1 r2 r3 x1 x3 x4 H locs ls hl hP hD hS hX
    unfold bX_countTicksInARow_77 at hX
    refine lv_iconst (v := 0) hx hb dX0_countTicksInARow_77 (by decide +kernel) ?_
    exact J78 g4 g5 g6 g7 g8 g9 g10 g11 g12 g13 g14 g15 g16 g17 r0 r1 r2 r3 x1 x3 x4 0 _ _ ls (lv_sub hl [0, 1, 2, 3] rfl) hP hD hS hX
  unfold sX_countTicksInARow at hX
  unfold bX_countTicksInARow_0 at hX
  refine lv_aload_n hx hb dX0_countTicksInARow_0 rfl (lv_at hl 0 rfl) ?_
  refine bw_Vi (wr := []) (As := []) (rest := []) ⟨hx, hb, hml, hown, hts⟩ (ctX_isConnected l D cI h0 a0 a1 a2 a3 _ g4 g5 g6 g7 g8 g9 g10 g11 g12 g13 g14 g15 g16 g17 r0 r1 r2 r3) (cwV 0 hts gX0_countTicksInARow_X0_isConnected rfl rfl rfl (by decide +kernel) ⟨Nat.le_of_ble_eq_true rfl, Nat.le_of_ble_eq_true rfl⟩) hK hP hD hS hA (tbX_bl) (tbX_to hT hS (bw_free (wr := []) hD hS hA)) 0 rfl rfl rfl hl.1 rfl (Nat.le_of_ble_eq_true rfl) dX0_countTicksInARow_1 ⟨Nat.le_of_ble_eq_true rfl, Nat.le_of_ble_eq_true rfl⟩ (fun q1 u H locs hu hP hD hS => ?_)
  obtain ⟨hr1, rfl⟩ := hu
  subst hr1
  have hP : va_P D vwC2 (wdX cI h0 a0 a1 a2 a3 g4 g5 g6 g7 g8 g9 g10 g11 g12 g13 g14 g15 g16 g17 r0 r1 r2 r3) H := hP
  have hD : va_D A (wdX cI h0 a0 a1 a2 a3 g4 g5 g6 g7 g8 g9 g10 g11 g12 g13 g14 g15 g16 g17 r0 r1 r2 r3) := hD
  refine lv_istore_n (lv' := [(1, .int (sX_isConnected g4 g5 g6 g7 g8 g9 g10 g11 g12 g13 g14 g15 g16 g17 r0 r1 r2 r3)), (0, .ref h0)]) hx hb dX0_countTicksInARow_4 rfl hl (by decide) rfl (fun ls hl => ?_)
  refine lv_aload_n hx hb dX0_countTicksInARow_5 rfl (lv_at hl 1 rfl) ?_
  refine va_get (D := D) (ci := 0) (v := .ref a2) (C := RX0) (T := TX0) (N := 18) hx hb hts hinU hown hK hP 0 rfl rfl 2 (by decide) (hts (.fieldLink RX0 27 "BloodCircuitChannels" "conditioned" "[I") (by decide +kernel)) (fun _ h9 => h9) rfl dX0_countTicksInARow_6 ?_
  refine lv_iconst (v := 0) hx hb dX0_countTicksInARow_9 (by decide +kernel) ?_
  refine bw_ld hx hb hK hP 3 0 rfl rfl 0 (by decide +kernel) (bw_in (by decide +kernel)) dX0_countTicksInARow_10 ?_
  refine lv_aload_n hx hb dX0_countTicksInARow_11 rfl (lv_at hl 1 rfl) ?_
  refine va_get (D := D) (ci := 0) (v := .ref a0) (C := RX0) (T := TX0) (N := 18) hx hb hts hinU hown hK hP 0 rfl rfl 0 (by decide) (hts (.fieldLink RX0 18 "BloodCircuitChannels" "parameters" "[I") (by decide +kernel)) (fun _ h9 => h9) rfl dX0_countTicksInARow_12 ?_
  refine lv_bipush (v := 6) hx hb dX0_countTicksInARow_15 (by decide +kernel) ?_
  refine bw_ld hx hb hK hP 1 0 rfl rfl 6 (by decide +kernel) (bw_in (by decide +kernel)) dX0_countTicksInARow_17 ?_
  refine lv_aload_n hx hb dX0_countTicksInARow_18 rfl (lv_at hl 1 rfl) ?_
  refine va_get (D := D) (ci := 0) (v := .ref a0) (C := RX0) (T := TX0) (N := 18) hx hb hts hinU hown hK hP 0 rfl rfl 0 (by decide) (hts (.fieldLink RX0 18 "BloodCircuitChannels" "parameters" "[I") (by decide +kernel)) (fun _ h9 => h9) rfl dX0_countTicksInARow_19 ?_
  refine lv_bipush (v := 7) hx hb dX0_countTicksInARow_22 (by decide +kernel) ?_
  refine bw_ld hx hb hK hP 1 0 rfl rfl 7 (by decide +kernel) (bw_in (by decide +kernel)) dX0_countTicksInARow_24 ?_
  refine bw_Si (As := [.int (r2 0), .int (r0 6), .int (r0 7)]) (rest := []) ⟨hx, hb, hml, hown, hts⟩ (ctX_isOutside l _ (r2 0) (r0 6) (r0 7)) (va_cwS 3 hts gX0_countTicksInARow_X0_isOutside rfl rfl rfl (by decide +kernel) ⟨Nat.le_of_ble_eq_true rfl, Nat.le_of_ble_eq_true rfl⟩) hP hS hA rfl hl.1 rfl (Nat.le_of_ble_eq_true rfl) dX0_countTicksInARow_25 ⟨Nat.le_of_ble_eq_true rfl, Nat.le_of_ble_eq_true rfl⟩ (fun H locs hP hS => ?_)
  refine lv_istore_n (lv' := [(2, .int (sX_isOutside (r2 0) (r0 6) (r0 7))), (1, .int (sX_isConnected g4 g5 g6 g7 g8 g9 g10 g11 g12 g13 g14 g15 g16 g17 r0 r1 r2 r3)), (0, .ref h0)]) hx hb dX0_countTicksInARow_28 rfl hl (by decide) rfl (fun ls hl => ?_)
  refine lv_aload_n hx hb dX0_countTicksInARow_29 rfl (lv_at hl 2 rfl) ?_
  refine va_get (D := D) (ci := 0) (v := .ref a2) (C := RX0) (T := TX0) (N := 18) hx hb hts hinU hown hK hP 0 rfl rfl 2 (by decide) (hts (.fieldLink RX0 27 "BloodCircuitChannels" "conditioned" "[I") (by decide +kernel)) (fun _ h9 => h9) rfl dX0_countTicksInARow_30 ?_
  refine lv_iconst (v := 1) hx hb dX0_countTicksInARow_33 (by decide +kernel) ?_
  refine bw_ld hx hb hK hP 3 0 rfl rfl 1 (by decide +kernel) (bw_in (by decide +kernel)) dX0_countTicksInARow_34 ?_
  refine lv_aload_n hx hb dX0_countTicksInARow_35 rfl (lv_at hl 2 rfl) ?_
  refine va_get (D := D) (ci := 0) (v := .ref a0) (C := RX0) (T := TX0) (N := 18) hx hb hts hinU hown hK hP 0 rfl rfl 0 (by decide) (hts (.fieldLink RX0 18 "BloodCircuitChannels" "parameters" "[I") (by decide +kernel)) (fun _ h9 => h9) rfl dX0_countTicksInARow_36 ?_
  refine lv_bipush (v := 8) hx hb dX0_countTicksInARow_39 (by decide +kernel) ?_
  refine bw_ld hx hb hK hP 1 0 rfl rfl 8 (by decide +kernel) (bw_in (by decide +kernel)) dX0_countTicksInARow_41 ?_
  refine lv_aload_n hx hb dX0_countTicksInARow_42 rfl (lv_at hl 2 rfl) ?_
  refine va_get (D := D) (ci := 0) (v := .ref a0) (C := RX0) (T := TX0) (N := 18) hx hb hts hinU hown hK hP 0 rfl rfl 0 (by decide) (hts (.fieldLink RX0 18 "BloodCircuitChannels" "parameters" "[I") (by decide +kernel)) (fun _ h9 => h9) rfl dX0_countTicksInARow_43 ?_
  refine lv_bipush (v := 9) hx hb dX0_countTicksInARow_46 (by decide +kernel) ?_
  refine bw_ld hx hb hK hP 1 0 rfl rfl 9 (by decide +kernel) (bw_in (by decide +kernel)) dX0_countTicksInARow_48 ?_
  refine bw_Si (As := [.int (r2 1), .int (r0 8), .int (r0 9)]) (rest := []) ⟨hx, hb, hml, hown, hts⟩ (ctX_isOutside l _ (r2 1) (r0 8) (r0 9)) (va_cwS 3 hts gX0_countTicksInARow_X0_isOutside rfl rfl rfl (by decide +kernel) ⟨Nat.le_of_ble_eq_true rfl, Nat.le_of_ble_eq_true rfl⟩) hP hS hA rfl hl.1 rfl (Nat.le_of_ble_eq_true rfl) dX0_countTicksInARow_49 ⟨Nat.le_of_ble_eq_true rfl, Nat.le_of_ble_eq_true rfl⟩ (fun H locs hP hS => ?_)
  refine lv_istore_n (lv' := [(3, .int (sX_isOutside (r2 1) (r0 8) (r0 9))), (2, .int (sX_isOutside (r2 0) (r0 6) (r0 7))), (1, .int (sX_isConnected g4 g5 g6 g7 g8 g9 g10 g11 g12 g13 g14 g15 g16 g17 r0 r1 r2 r3)), (0, .ref h0)]) hx hb dX0_countTicksInARow_52 rfl hl (by decide) rfl (fun ls hl => ?_)
  refine lv_aload_n hx hb dX0_countTicksInARow_53 rfl (lv_at hl 3 rfl) ?_
  refine bw_Vi (wr := []) (As := []) (rest := []) ⟨hx, hb, hml, hown, hts⟩ (ctX_isFluidOff l D cI h0 a0 a1 a2 a3 _ g4 g5 g6 g7 g8 g9 g10 g11 g12 g13 g14 g15 g16 g17 r0 r1 r2 r3) (cwV 0 hts gX0_countTicksInARow_X0_isFluidOff rfl rfl rfl (by decide +kernel) ⟨Nat.le_of_ble_eq_true rfl, Nat.le_of_ble_eq_true rfl⟩) hK hP hD hS hA (tbX_bl) (tbX_to hT hS (bw_free (wr := []) hD hS hA)) 0 rfl rfl rfl hl.1 rfl (Nat.le_of_ble_eq_true rfl) dX0_countTicksInARow_54 ⟨Nat.le_of_ble_eq_true rfl, Nat.le_of_ble_eq_true rfl⟩ (fun q2 u H locs hu hP hD hS => ?_)
  obtain ⟨hr1, rfl⟩ := hu
  subst hr1
  have hP : va_P D vwC2 (wdX cI h0 a0 a1 a2 a3 g4 g5 g6 g7 g8 g9 g10 g11 g12 g13 g14 g15 g16 g17 r0 r1 r2 r3) H := hP
  have hD : va_D A (wdX cI h0 a0 a1 a2 a3 g4 g5 g6 g7 g8 g9 g10 g11 g12 g13 g14 g15 g16 g17 r0 r1 r2 r3) := hD
  refine lv_istore (lv' := [(4, .int (sX_isFluidOff g4 g5 g6 g7 g8 g9 g10 g11 g12 g13 g14 g15 g16 g17 r0 r1 r2 r3)), (3, .int (sX_isOutside (r2 1) (r0 8) (r0 9))), (2, .int (sX_isOutside (r2 0) (r0 6) (r0 7))), (1, .int (sX_isConnected g4 g5 g6 g7 g8 g9 g10 g11 g12 g13 g14 g15 g16 g17 r0 r1 r2 r3)), (0, .ref h0)]) hx hb dX0_countTicksInARow_57 hl (by decide) rfl (fun ls hl => ?_)
  refine lv_aload_n hx hb dX0_countTicksInARow_59 rfl (lv_at hl 4 rfl) ?_
  refine lv_iload_n hx hb dX0_countTicksInARow_60 rfl (lv_at hl 3 rfl) ?_
  refine lv_if_eq (tgt := 77) hx hb dX0_countTicksInARow_61 (by decide) (fun hc61 => ?_) (fun hc61 => ?_)
  · rw [if_pos hc61] at hX
    exact J77 g4 g5 g6 g7 g8 g9 g10 g11 g12 g13 g14 g15 g16 g17 r0 r1 r2 r3 (sX_isConnected g4 g5 g6 g7 g8 g9 g10 g11 g12 g13 g14 g15 g16 g17 r0 r1 r2 r3) (sX_isOutside (r2 1) (r0 8) (r0 9)) (sX_isFluidOff g4 g5 g6 g7 g8 g9 g10 g11 g12 g13 g14 g15 g16 g17 r0 r1 r2 r3) _ _ ls (lv_sub hl [4, 3, 1, 0] rfl) hP hD hS hX
  · rw [if_neg hc61] at hX
    unfold bX_countTicksInARow_64 at hX
    refine lv_iload_n hx hb dX0_countTicksInARow_64 rfl (lv_at hl 2 rfl) ?_
    refine lv_if_eq (tgt := 77) hx hb dX0_countTicksInARow_65 (by decide) (fun hc65 => ?_) (fun hc65 => ?_)
    · rw [if_pos hc65] at hX
      exact J77 g4 g5 g6 g7 g8 g9 g10 g11 g12 g13 g14 g15 g16 g17 r0 r1 r2 r3 (sX_isConnected g4 g5 g6 g7 g8 g9 g10 g11 g12 g13 g14 g15 g16 g17 r0 r1 r2 r3) (sX_isOutside (r2 1) (r0 8) (r0 9)) (sX_isFluidOff g4 g5 g6 g7 g8 g9 g10 g11 g12 g13 g14 g15 g16 g17 r0 r1 r2 r3) _ _ ls (lv_sub hl [4, 3, 1, 0] rfl) hP hD hS hX
    · rw [if_neg hc65] at hX
      unfold bX_countTicksInARow_68 at hX
      refine lv_aload_n hx hb dX0_countTicksInARow_68 rfl (lv_at hl 4 rfl) ?_
      refine va_get (D := D) (ci := 0) (v := .int g16) (C := RX0) (T := TX0) (N := 18) hx hb hts hinU hown hK hP 0 rfl rfl 16 (by decide) (hts (.fieldLink RX0 130 "BloodCircuitChannels" "arterialOutTicks" "I") (by decide +kernel)) (fun _ h9 => h9) rfl dX0_countTicksInARow_69 ?_
      refine lv_iconst (v := 1) hx hb dX0_countTicksInARow_72 (by decide +kernel) ?_
      refine lv_iadd hx hb dX0_countTicksInARow_73 ?_
      refine lv_goto (tgt := 78) hx hb dX0_countTicksInARow_74 (by decide) ?_
      exact J78 g4 g5 g6 g7 g8 g9 g10 g11 g12 g13 g14 g15 g16 g17 r0 r1 r2 r3 (sX_isConnected g4 g5 g6 g7 g8 g9 g10 g11 g12 g13 g14 g15 g16 g17 r0 r1 r2 r3) (sX_isOutside (r2 1) (r0 8) (r0 9)) (sX_isFluidOff g4 g5 g6 g7 g8 g9 g10 g11 g12 g13 g14 g15 g16 g17 r0 r1 r2 r3) (g16 + 1) _ _ ls (lv_sub hl [4, 3, 1, 0] rfl) hP hD hS hX
abbrev rmX_isSomeSensorFaulty : Room := { frames := 0, cells := 0, slots := 0, locals := 0 }
set_option maxHeartbeats 4000000 in
set_option maxRecDepth 100000 in
theorem ctX_isSomeSensorFaulty (l : Launch) (D : va_G) (cI : ClassId) (h0 a0 a1 a2 a3 sz : Nat) (g4 g5 g6 g7 g8 g9 g10 g11 g12 g13 g14 g15 g16 g17 : Int32) (r0 r1 r2 r3 : Nat → Int32)   : Met l yX0_isSomeSensorFaulty wsX0_isSomeSensorFaulty rmX_isSomeSensorFaulty (va_Pc [.ref h0] (bw_pr D vwC2 [(cI, .int)] (wdX cI h0 a0 a1 a2 a3 g4 g5 g6 g7 g8 g9 g10 g11 g12 g13 g14 g15 g16 g17 r0 r1 r2 r3) sz (tbX (va_A (wdX cI h0 a0 a1 a2 a3 g4 g5 g6 g7 g8 g9 g10 g11 g12 g13 g14 g15 g16 g17 r0 r1 r2 r3) sz)))) (va_Qi (fun r u => r = sX_isSomeSensorFaulty g4 g5 g6 g7 g8 g9 g10 g11 g12 g13 g14 g15 g16 g17 r0 r1 r2 r3 ∧ u = (g4, g5, g6, g7, g8, g9, g10, g11, g12, g13, g14, g15, g16, g17, r0, r1, r2, r3)) (bw_at D vwC2 [(cI, .int)] (wfX cI h0 a0 a1 a2 a3) (va_A (wdX cI h0 a0 a1 a2 a3 g4 g5 g6 g7 g8 g9 g10 g11 g12 g13 g14 g15 g16 g17 r0 r1 r2 r3) sz)) (va_A (wdX cI h0 a0 a1 a2 a3 g4 g5 g6 g7 g8 g9 g10 g11 g12 g13 g14 g15 g16 g17 r0 r1 r2 r3) sz)) 0 0 (va_A (wdX cI h0 a0 a1 a2 a3 g4 g5 g6 g7 g8 g9 g10 g11 g12 g13 g14 g15 g16 g17 r0 r1 r2 r3) sz) := by
  refine Met.ofW (cc := cX0_isSomeSensorFaulty) (maxL := 2) (ret := (some .boolean)) (by decide) rfl ?_
  intro p e s m args below meth c s₁ B hml hv
  obtain ⟨rfl, hsz, hP, hK, hD0, hT⟩ := hv
  have hx := B.exec
  have hb := B.bytes
  have hr := B.returns
  have hts := atoms_spec (ws := wsX0_isSomeSensorFaulty) B.pre
  have hown : s.vm.findClass RX0 = some m.cls := findClass_of_methodNamed B.named
  have hlocks := B.notSynchronized
  subst hsz
  have hD := hD0.self (sz := s.heap.size)
  generalize hAe : va_A (wdX cI h0 a0 a1 a2 a3 g4 g5 g6 g7 g8 g9 g10 g11 g12 g13 g14 g15 g16 g17 r0 r1 r2 r3) s.heap.size = A at hD hT ⊢
  have hA : ∀ q : Nat, s.heap.size ≤ q → A q := fun q h => by rw [← hAe]; exact Or.inr h
  have hS : va_S A s.heap s.heap [] := va_S.rf
  have hl := lv_entry ([.ref h0]) (n := 2) (Nat.le_of_ble_eq_true rfl)
  rw [lg_entry_eq]
  generalize (lg_sl ([.ref h0]) ++ List.replicate (2 - (lg_sl ([.ref h0])).length) Slot.unset).toArray = ls at hl ⊢
  have hl : lv_has ls 2 [(0, .ref h0)] := hl
  generalize hX : sX_isSomeSensorFaulty g4 g5 g6 g7 g8 g9 g10 g11 g12 g13 g14 g15 g16 g17 r0 r1 r2 r3 = X
  refine bw_Q (fun Q hQ => ?_)
  have hinU : ∀ w ∈ wsX00, w ∈ wsX0_isSomeSensorFaulty := fun w h => List.mem_cons_of_mem _ (List.mem_append_right _ h)
  have J26 : ∀  (H : Heap) (locs : List Loc) (ls : Array Slot), lv_has ls 2 [(0, .ref h0)] → va_P D vwC2 (wdX cI h0 a0 a1 a2 a3 g4 g5 g6 g7 g8 g9 g10 g11 g12 g13 g14 g15 g16 g17 r0 r1 r2 r3) H → va_D A (wdX cI h0 a0 a1 a2 a3 g4 g5 g6 g7 g8 g9 g10 g11 g12 g13 g14 g15 g16 g17 r0 r1 r2 r3) → va_S A s.heap H locs → bX_isSomeSensorFaulty_26 g4 g5 g6 g7 g8 g9 g10 g11 g12 g13 g14 g15 g16 g17 r0 r1 r2 r3 = X → W p l e (headSpec wsX0_isSomeSensorFaulty rmX_isSomeSensorFaulty).room s m ([.ref h0] : List Value).toArray below meth c H locs 0 0 Q (F0 m 26 ls []) := by
    intro  H locs ls hl hP hD hS hX
    unfold bX_isSomeSensorFaulty_26 at hX
    refine lv_iconst (v := 0) hx hb dX0_isSomeSensorFaulty_26 (by decide +kernel) ?_
    subst hQ
    exact W.zret (ty := .boolean) (v := 0) hx hb hr (by decide +kernel) (fun t ht hW => ⟨⟨0, (g4, g5, g6, g7, g8, g9, g10, g11, g12, g13, g14, g15, g16, g17, r0, r1, r2, r3), rfl, ⟨hX, rfl⟩, by rw [ht]; exact hP, va_K.moved hW.alike hK, hD⟩, hS.F ht⟩) hS.2.2 dX0_isSomeSensorFaulty_27
  have JH2 : ∀ (f k : Nat), k < f → k ≤ 6 → ∀ (x1 : Int32), x1 = nI (6 - k) → ∀ (H : Heap) (locs : List Loc) (ls : Array Slot), lv_has ls 2 [(0, .ref h0), (1, .int x1)] → va_P D vwC2 (wdX cI h0 a0 a1 a2 a3 g4 g5 g6 g7 g8 g9 g10 g11 g12 g13 g14 g15 g16 g17 r0 r1 r2 r3) H → va_D A (wdX cI h0 a0 a1 a2 a3 g4 g5 g6 g7 g8 g9 g10 g11 g12 g13 g14 g15 g16 g17 r0 r1 r2 r3) → va_S A s.heap H locs → bX_isSomeSensorFaulty_2 f g4 g5 g6 g7 g8 g9 g10 g11 g12 g13 g14 g15 g16 g17 r0 r1 r2 r3 x1 = X → W p l e (headSpec wsX0_isSomeSensorFaulty rmX_isSomeSensorFaulty).room s m ([.ref h0] : List Value).toArray below meth c H locs 0 0 Q (F0 m 2 ls []) := by
    intro f
    induction f with
    | zero => intro k hkf; omega
    | succ f ih =>
      intro k hkf hkN x1 hi H locs ls hl hP hD hS hX
      rw [bX_isSomeSensorFaulty_2_s] at hX
      refine lv_iload_n hx hb dX0_isSomeSensorFaulty_2 rfl (lv_at hl 1 rfl) ?_
      refine lv_bipush (v := 6) hx hb dX0_isSomeSensorFaulty_3 (by decide +kernel) ?_
      refine lv_icmp_ge (tgt := 26) hx hb dX0_isSomeSensorFaulty_5 (by decide) (fun hc5 => ?_) (fun hc5 => ?_)
      · rw [if_pos hc5] at hX
        exact J26  _ _ ls (lv_sub hl [0] rfl) hP hD hS hX
      · rw [if_neg hc5] at hX
        have hk0 : k ≠ 0 := fun h => hc5 (by rw [hi, h]; decide +kernel)
        obtain ⟨k, rfl⟩ : ∃ k', k = k' + 1 := ⟨k - 1, by omega⟩
        have hin : vp_in x1 6 := by rw [hi]; exact vp_in_nI (by omega) (by decide)
        unfold bX_isSomeSensorFaulty_8 at hX
        refine lv_aload_n hx hb dX0_isSomeSensorFaulty_8 rfl (lv_at hl 0 rfl) ?_
        refine va_get (D := D) (ci := 0) (v := .ref a3) (C := RX0) (T := TX0) (N := 18) hx hb hts hinU hown hK hP 0 rfl rfl 3 (by decide) (hts (.fieldLink RX0 30 "BloodCircuitChannels" "implausibleTicks" "[I") (by decide +kernel)) (fun _ h9 => h9) rfl dX0_isSomeSensorFaulty_9 ?_
        refine lv_iload_n hx hb dX0_isSomeSensorFaulty_12 rfl (lv_at hl 1 rfl) ?_
        refine va_iald hx hb hK hP 4 0 rfl rfl hin dX0_isSomeSensorFaulty_13 ?_
        refine lv_iconst (v := 3) hx hb dX0_isSomeSensorFaulty_14 (by decide +kernel) ?_
        refine lv_icmp_lt (tgt := 20) hx hb dX0_isSomeSensorFaulty_15 (by decide) (fun hc15 => ?_) (fun hc15 => ?_)
        · rw [if_pos hc15] at hX
          unfold bX_isSomeSensorFaulty_20 at hX
          refine lv_iinc (k := 1) (v := x1 + 1) (lv' := [(1, .int (x1 + 1)), (0, .ref h0)]) hx hb dX0_isSomeSensorFaulty_20 hl rfl (bw_inc1 _) (by decide) rfl (fun ls hl => ?_)
          refine lv_goto (tgt := 2) hx hb dX0_isSomeSensorFaulty_23 (by decide) ?_
          exact ih k (by omega) (by omega) (x1 + 1) (bw_nx hi (by omega)) _ _ ls (lv_sub hl [1, 0] rfl) hP hD hS hX
        · rw [if_neg hc15] at hX
          unfold bX_isSomeSensorFaulty_18 at hX
          refine lv_iconst (v := 1) hx hb dX0_isSomeSensorFaulty_18 (by decide +kernel) ?_
          subst hQ
          exact W.zret (ty := .boolean) (v := 1) hx hb hr (by decide +kernel) (fun t ht hW => ⟨⟨1, (g4, g5, g6, g7, g8, g9, g10, g11, g12, g13, g14, g15, g16, g17, r0, r1, r2, r3), rfl, ⟨hX, rfl⟩, by rw [ht]; exact hP, va_K.moved hW.alike hK, hD⟩, hS.F ht⟩) hS.2.2 dX0_isSomeSensorFaulty_19
  unfold sX_isSomeSensorFaulty at hX
  unfold bX_isSomeSensorFaulty_0 at hX
  refine lv_iconst (v := 0) hx hb dX0_isSomeSensorFaulty_0 (by decide +kernel) ?_
  refine lv_istore_n (lv' := [(1, .int 0), (0, .ref h0)]) hx hb dX0_isSomeSensorFaulty_1 rfl hl (by decide) rfl (fun ls hl => ?_)
  exact JH2 7 6 (by omega) (by omega) 0 (by decide +kernel) _ _ ls (lv_sub hl [1, 0] rfl) hP hD hS hX
abbrev rmX_conditionsNow : Room := { frames := 1, cells := 0, slots := 0, locals := 21 }
set_option maxHeartbeats 4000000 in
set_option maxRecDepth 100000 in
theorem ctX_conditionsNow (l : Launch) (D : va_G) (cI : ClassId) (h0 a0 a1 a2 a3 sz : Nat) (g4 g5 g6 g7 g8 g9 g10 g11 g12 g13 g14 g15 g16 g17 : Int32) (r0 r1 r2 r3 : Nat → Int32)   : Met l yX0_conditionsNow wsX0_conditionsNow rmX_conditionsNow (va_Pc [.ref h0] (bw_pr D vwC2 [(cI, .int)] (wdX cI h0 a0 a1 a2 a3 g4 g5 g6 g7 g8 g9 g10 g11 g12 g13 g14 g15 g16 g17 r0 r1 r2 r3) sz (tbX (va_A (wdX cI h0 a0 a1 a2 a3 g4 g5 g6 g7 g8 g9 g10 g11 g12 g13 g14 g15 g16 g17 r0 r1 r2 r3) sz)))) (va_Qi (fun r u => r = sX_conditionsNow g4 g5 g6 g7 g8 g9 g10 g11 g12 g13 g14 g15 g16 g17 r0 r1 r2 r3 ∧ u = (g4, g5, g6, g7, g8, g9, g10, g11, g12, g13, g14, g15, g16, g17, r0, r1, r2, r3)) (bw_at D vwC2 [(cI, .int)] (wfX cI h0 a0 a1 a2 a3) (va_A (wdX cI h0 a0 a1 a2 a3 g4 g5 g6 g7 g8 g9 g10 g11 g12 g13 g14 g15 g16 g17 r0 r1 r2 r3) sz)) (va_A (wdX cI h0 a0 a1 a2 a3 g4 g5 g6 g7 g8 g9 g10 g11 g12 g13 g14 g15 g16 g17 r0 r1 r2 r3) sz)) 0 0 (va_A (wdX cI h0 a0 a1 a2 a3 g4 g5 g6 g7 g8 g9 g10 g11 g12 g13 g14 g15 g16 g17 r0 r1 r2 r3) sz) := by
  refine Met.ofW (cc := cX0_conditionsNow) (maxL := 1) (ret := (some .int)) (by decide) rfl ?_
  intro p e s m args below meth c s₁ B hml hv
  obtain ⟨rfl, hsz, hP, hK, hD0, hT⟩ := hv
  have hx := B.exec
  have hb := B.bytes
  have hr := B.returns
  have hts := atoms_spec (ws := wsX0_conditionsNow) B.pre
  have hown : s.vm.findClass RX0 = some m.cls := findClass_of_methodNamed B.named
  have hlocks := B.notSynchronized
  subst hsz
  have hD := hD0.self (sz := s.heap.size)
  generalize hAe : va_A (wdX cI h0 a0 a1 a2 a3 g4 g5 g6 g7 g8 g9 g10 g11 g12 g13 g14 g15 g16 g17 r0 r1 r2 r3) s.heap.size = A at hD hT ⊢
  have hA : ∀ q : Nat, s.heap.size ≤ q → A q := fun q h => by rw [← hAe]; exact Or.inr h
  have hS : va_S A s.heap s.heap [] := va_S.rf
  have hl := lv_entry ([.ref h0]) (n := 1) (Nat.le_of_ble_eq_true rfl)
  rw [lg_entry_eq]
  generalize (lg_sl ([.ref h0]) ++ List.replicate (1 - (lg_sl ([.ref h0])).length) Slot.unset).toArray = ls at hl ⊢
  have hl : lv_has ls 1 [(0, .ref h0)] := hl
  generalize hX : sX_conditionsNow g4 g5 g6 g7 g8 g9 g10 g11 g12 g13 g14 g15 g16 g17 r0 r1 r2 r3 = X
  refine bw_Q (fun Q hQ => ?_)
  have hinU : ∀ w ∈ wsX00, w ∈ wsX0_conditionsNow := fun w h => List.mem_cons_of_mem _ (List.mem_append_right _ h)
  have J107 : ∀ (y0 : Int32) (y1 : Int32) (H : Heap) (locs : List Loc) (ls : Array Slot), lv_has ls 1 [(0, .ref h0)] → va_P D vwC2 (wdX cI h0 a0 a1 a2 a3 g4 g5 g6 g7 g8 g9 g10 g11 g12 g13 g14 g15 g16 g17 r0 r1 r2 r3) H → va_D A (wdX cI h0 a0 a1 a2 a3 g4 g5 g6 g7 g8 g9 g10 g11 g12 g13 g14 g15 g16 g17 r0 r1 r2 r3) → va_S A s.heap H locs → bX_conditionsNow_107 g4 g5 g6 g7 g8 g9 g10 g11 g12 g13 g14 g15 g16 g17 r0 r1 r2 r3 y0 y1 = X → W p l e (headSpec wsX0_conditionsNow rmX_conditionsNow).room s m ([.ref h0] : List Value).toArray below meth c H locs 0 0 Q (F0 m 107 ls [.int y0, .int y1]) := by
    intro y0 y1 H locs ls hl hP hD hS hX
    unfold bX_conditionsNow_107 at hX
    refine lv_ior hx hb dX0_conditionsNow_107 ?_
    subst hQ
    exact W.iret (v := y1 ||| y0) hx hb hr (fun t ht hW => ⟨⟨y1 ||| y0, (g4, g5, g6, g7, g8, g9, g10, g11, g12, g13, g14, g15, g16, g17, r0, r1, r2, r3), rfl, ⟨hX, rfl⟩, by rw [ht]; exact hP, va_K.moved hW.alike hK, hD⟩, hS.F ht⟩) hS.2.2 dX0_conditionsNow_108
  have J93 : ∀ (y0 : Int32) (y1 : Int32) (H : Heap) (locs : List Loc) (ls : Array Slot), lv_has ls 1 [(0, .ref h0)] → va_P D vwC2 (wdX cI h0 a0 a1 a2 a3 g4 g5 g6 g7 g8 g9 g10 g11 g12 g13 g14 g15 g16 g17 r0 r1 r2 r3) H → va_D A (wdX cI h0 a0 a1 a2 a3 g4 g5 g6 g7 g8 g9 g10 g11 g12 g13 g14 g15 g16 g17 r0 r1 r2 r3) → va_S A s.heap H locs → bX_conditionsNow_93 g4 g5 g6 g7 g8 g9 g10 g11 g12 g13 g14 g15 g16 g17 r0 r1 r2 r3 y0 y1 = X → W p l e (headSpec wsX0_conditionsNow rmX_conditionsNow).room s m ([.ref h0] : List Value).toArray below meth c H locs 0 0 Q (F0 m 93 ls [.int y0, .int y1]) := by
    intro y0 y1 H locs ls hl hP hD hS hX
    unfold bX_conditionsNow_93 at hX
    refine lv_ior hx hb dX0_conditionsNow_93 ?_
    refine lv_aload_n hx hb dX0_conditionsNow_94 rfl (lv_at hl 0 rfl) ?_
    refine bw_Vi (wr := []) (As := []) (rest := [.int (y1 ||| y0)]) ⟨hx, hb, hml, hown, hts⟩ (ctX_isSomeSensorFaulty l D cI h0 a0 a1 a2 a3 _ g4 g5 g6 g7 g8 g9 g10 g11 g12 g13 g14 g15 g16 g17 r0 r1 r2 r3) (cwV 0 hts gX0_conditionsNow_X0_isSomeSensorFaulty rfl rfl rfl (by decide +kernel) ⟨Nat.le_of_ble_eq_true rfl, Nat.le_of_ble_eq_true rfl⟩) hK hP hD hS hA (tbX_bl) (tbX_to hT hS (bw_free (wr := []) hD hS hA)) 0 rfl rfl rfl hl.1 rfl (Nat.le_of_ble_eq_true rfl) dX0_conditionsNow_95 ⟨Nat.le_of_ble_eq_true rfl, Nat.le_of_ble_eq_true rfl⟩ (fun q1 u H locs hu hP hD hS => ?_)
    obtain ⟨hr1, rfl⟩ := hu
    subst hr1
    have hP : va_P D vwC2 (wdX cI h0 a0 a1 a2 a3 g4 g5 g6 g7 g8 g9 g10 g11 g12 g13 g14 g15 g16 g17 r0 r1 r2 r3) H := hP
    have hD : va_D A (wdX cI h0 a0 a1 a2 a3 g4 g5 g6 g7 g8 g9 g10 g11 g12 g13 g14 g15 g16 g17 r0 r1 r2 r3) := hD
    refine lv_if_eq (tgt := 106) hx hb dX0_conditionsNow_98 (by decide) (fun hc98 => ?_) (fun hc98 => ?_)
    · rw [if_pos hc98] at hX
      unfold bX_conditionsNow_106 at hX
      refine lv_iconst (v := 0) hx hb dX0_conditionsNow_106 (by decide +kernel) ?_
      exact J107 0 (y1 ||| y0) _ _ ls (lv_sub hl [0] rfl) hP hD hS hX
    · rw [if_neg hc98] at hX
      unfold bX_conditionsNow_101 at hX
      refine lv_bipush (v := 32) hx hb dX0_conditionsNow_101 (by decide +kernel) ?_
      refine lv_goto (tgt := 107) hx hb dX0_conditionsNow_103 (by decide) ?_
      exact J107 32 (y1 ||| y0) _ _ ls (lv_sub hl [0] rfl) hP hD hS hX
  have J76 : ∀ (y0 : Int32) (y1 : Int32) (H : Heap) (locs : List Loc) (ls : Array Slot), lv_has ls 1 [(0, .ref h0)] → va_P D vwC2 (wdX cI h0 a0 a1 a2 a3 g4 g5 g6 g7 g8 g9 g10 g11 g12 g13 g14 g15 g16 g17 r0 r1 r2 r3) H → va_D A (wdX cI h0 a0 a1 a2 a3 g4 g5 g6 g7 g8 g9 g10 g11 g12 g13 g14 g15 g16 g17 r0 r1 r2 r3) → va_S A s.heap H locs → bX_conditionsNow_76 g4 g5 g6 g7 g8 g9 g10 g11 g12 g13 g14 g15 g16 g17 r0 r1 r2 r3 y0 y1 = X → W p l e (headSpec wsX0_conditionsNow rmX_conditionsNow).room s m ([.ref h0] : List Value).toArray below meth c H locs 0 0 Q (F0 m 76 ls [.int y0, .int y1]) := by
    intro y0 y1 H locs ls hl hP hD hS hX
    unfold bX_conditionsNow_76 at hX
    refine lv_ior hx hb dX0_conditionsNow_76 ?_
    refine lv_aload_n hx hb dX0_conditionsNow_77 rfl (lv_at hl 0 rfl) ?_
    refine va_get (D := D) (ci := 0) (v := .int g15) (C := RX0) (T := TX0) (N := 18) hx hb hts hinU hown hK hP 0 rfl rfl 15 (by decide) (hts (.fieldLink RX0 136 "BloodCircuitChannels" "fluidOffTicks" "I") (by decide +kernel)) (fun _ h9 => h9) rfl dX0_conditionsNow_78 ?_
    refine lv_sipush (v := 600) hx hb dX0_conditionsNow_81 (by decide +kernel) ?_
    refine lv_icmp_lt (tgt := 92) hx hb dX0_conditionsNow_84 (by decide) (fun hc84 => ?_) (fun hc84 => ?_)
    · rw [if_pos hc84] at hX
      unfold bX_conditionsNow_92 at hX
      refine lv_iconst (v := 0) hx hb dX0_conditionsNow_92 (by decide +kernel) ?_
      exact J93 0 (y1 ||| y0) _ _ ls (lv_sub hl [0] rfl) hP hD hS hX
    · rw [if_neg hc84] at hX
      unfold bX_conditionsNow_87 at hX
      refine lv_bipush (v := 16) hx hb dX0_conditionsNow_87 (by decide +kernel) ?_
      refine lv_goto (tgt := 93) hx hb dX0_conditionsNow_89 (by decide) ?_
      exact J93 16 (y1 ||| y0) _ _ ls (lv_sub hl [0] rfl) hP hD hS hX
  have J75 : ∀ (y0 : Int32) (H : Heap) (locs : List Loc) (ls : Array Slot), lv_has ls 1 [(0, .ref h0)] → va_P D vwC2 (wdX cI h0 a0 a1 a2 a3 g4 g5 g6 g7 g8 g9 g10 g11 g12 g13 g14 g15 g16 g17 r0 r1 r2 r3) H → va_D A (wdX cI h0 a0 a1 a2 a3 g4 g5 g6 g7 g8 g9 g10 g11 g12 g13 g14 g15 g16 g17 r0 r1 r2 r3) → va_S A s.heap H locs → bX_conditionsNow_75 g4 g5 g6 g7 g8 g9 g10 g11 g12 g13 g14 g15 g16 g17 r0 r1 r2 r3 y0 = X → W p l e (headSpec wsX0_conditionsNow rmX_conditionsNow).room s m ([.ref h0] : List Value).toArray below meth c H locs 0 0 Q (F0 m 75 ls [.int y0]) := by
    intro y0 H locs ls hl hP hD hS hX
    unfold bX_conditionsNow_75 at hX
    refine lv_iconst (v := 0) hx hb dX0_conditionsNow_75 (by decide +kernel) ?_
    exact J76 0 y0 _ _ ls (lv_sub hl [0] rfl) hP hD hS hX
  have J51 : ∀ (y0 : Int32) (y1 : Int32) (H : Heap) (locs : List Loc) (ls : Array Slot), lv_has ls 1 [(0, .ref h0)] → va_P D vwC2 (wdX cI h0 a0 a1 a2 a3 g4 g5 g6 g7 g8 g9 g10 g11 g12 g13 g14 g15 g16 g17 r0 r1 r2 r3) H → va_D A (wdX cI h0 a0 a1 a2 a3 g4 g5 g6 g7 g8 g9 g10 g11 g12 g13 g14 g15 g16 g17 r0 r1 r2 r3) → va_S A s.heap H locs → bX_conditionsNow_51 g4 g5 g6 g7 g8 g9 g10 g11 g12 g13 g14 g15 g16 g17 r0 r1 r2 r3 y0 y1 = X → W p l e (headSpec wsX0_conditionsNow rmX_conditionsNow).room s m ([.ref h0] : List Value).toArray below meth c H locs 0 0 Q (F0 m 51 ls [.int y0, .int y1]) := by
    intro y0 y1 H locs ls hl hP hD hS hX
    unfold bX_conditionsNow_51 at hX
    refine lv_ior hx hb dX0_conditionsNow_51 ?_
    refine lv_aload_n hx hb dX0_conditionsNow_52 rfl (lv_at hl 0 rfl) ?_
    refine va_get (D := D) (ci := 0) (v := .int g4) (C := RX0) (T := TX0) (N := 18) hx hb hts hinU hown hK hP 0 rfl rfl 4 (by decide) (hts (.fieldLink RX0 33 "BloodCircuitChannels" "phase" "I") (by decide +kernel)) (fun _ h9 => h9) rfl dX0_conditionsNow_53 ?_
    refine lv_iconst (v := 3) hx hb dX0_conditionsNow_56 (by decide +kernel) ?_
    refine lv_icmp_ne (tgt := 75) hx hb dX0_conditionsNow_57 (by decide) (fun hc57 => ?_) (fun hc57 => ?_)
    · rw [if_neg hc57] at hX
      exact J75 (y1 ||| y0) _ _ ls (lv_sub hl [0] rfl) hP hD hS hX
    · rw [if_pos hc57] at hX
      unfold bX_conditionsNow_60 at hX
      refine lv_aload_n hx hb dX0_conditionsNow_60 rfl (lv_at hl 0 rfl) ?_
      refine va_get (D := D) (ci := 0) (v := .ref a2) (C := RX0) (T := TX0) (N := 18) hx hb hts hinU hown hK hP 0 rfl rfl 2 (by decide) (hts (.fieldLink RX0 27 "BloodCircuitChannels" "conditioned" "[I") (by decide +kernel)) (fun _ h9 => h9) rfl dX0_conditionsNow_61 ?_
      refine lv_iconst (v := 5) hx hb dX0_conditionsNow_64 (by decide +kernel) ?_
      refine bw_ld hx hb hK hP 3 0 rfl rfl 5 (by decide +kernel) (bw_in (by decide +kernel)) dX0_conditionsNow_65 ?_
      refine lv_iconst (v := 1) hx hb dX0_conditionsNow_66 (by decide +kernel) ?_
      refine lv_icmp_ne (tgt := 75) hx hb dX0_conditionsNow_67 (by decide) (fun hc67 => ?_) (fun hc67 => ?_)
      · rw [if_neg hc67] at hX
        exact J75 (y1 ||| y0) _ _ ls (lv_sub hl [0] rfl) hP hD hS hX
      · rw [if_pos hc67] at hX
        unfold bX_conditionsNow_70 at hX
        refine lv_bipush (v := 8) hx hb dX0_conditionsNow_70 (by decide +kernel) ?_
        refine lv_goto (tgt := 76) hx hb dX0_conditionsNow_72 (by decide) ?_
        exact J76 8 (y1 ||| y0) _ _ ls (lv_sub hl [0] rfl) hP hD hS hX
  have J50 : ∀ (y0 : Int32) (H : Heap) (locs : List Loc) (ls : Array Slot), lv_has ls 1 [(0, .ref h0)] → va_P D vwC2 (wdX cI h0 a0 a1 a2 a3 g4 g5 g6 g7 g8 g9 g10 g11 g12 g13 g14 g15 g16 g17 r0 r1 r2 r3) H → va_D A (wdX cI h0 a0 a1 a2 a3 g4 g5 g6 g7 g8 g9 g10 g11 g12 g13 g14 g15 g16 g17 r0 r1 r2 r3) → va_S A s.heap H locs → bX_conditionsNow_50 g4 g5 g6 g7 g8 g9 g10 g11 g12 g13 g14 g15 g16 g17 r0 r1 r2 r3 y0 = X → W p l e (headSpec wsX0_conditionsNow rmX_conditionsNow).room s m ([.ref h0] : List Value).toArray below meth c H locs 0 0 Q (F0 m 50 ls [.int y0]) := by
    intro y0 H locs ls hl hP hD hS hX
    unfold bX_conditionsNow_50 at hX
    refine lv_iconst (v := 0) hx hb dX0_conditionsNow_50 (by decide +kernel) ?_
    exact J51 0 y0 _ _ ls (lv_sub hl [0] rfl) hP hD hS hX
  have J28 : ∀ (y0 : Int32) (y1 : Int32) (H : Heap) (locs : List Loc) (ls : Array Slot), lv_has ls 1 [(0, .ref h0)] → va_P D vwC2 (wdX cI h0 a0 a1 a2 a3 g4 g5 g6 g7 g8 g9 g10 g11 g12 g13 g14 g15 g16 g17 r0 r1 r2 r3) H → va_D A (wdX cI h0 a0 a1 a2 a3 g4 g5 g6 g7 g8 g9 g10 g11 g12 g13 g14 g15 g16 g17 r0 r1 r2 r3) → va_S A s.heap H locs → bX_conditionsNow_28 g4 g5 g6 g7 g8 g9 g10 g11 g12 g13 g14 g15 g16 g17 r0 r1 r2 r3 y0 y1 = X → W p l e (headSpec wsX0_conditionsNow rmX_conditionsNow).room s m ([.ref h0] : List Value).toArray below meth c H locs 0 0 Q (F0 m 28 ls [.int y0, .int y1]) := by
    intro y0 y1 H locs ls hl hP hD hS hX
    unfold bX_conditionsNow_28 at hX
    refine lv_ior hx hb dX0_conditionsNow_28 ?_
    refine lv_aload_n hx hb dX0_conditionsNow_29 rfl (lv_at hl 0 rfl) ?_
    refine bw_Vi (wr := []) (As := []) (rest := [.int (y1 ||| y0)]) ⟨hx, hb, hml, hown, hts⟩ (ctX_isConnected l D cI h0 a0 a1 a2 a3 _ g4 g5 g6 g7 g8 g9 g10 g11 g12 g13 g14 g15 g16 g17 r0 r1 r2 r3) (cwV 0 hts gX0_conditionsNow_X0_isConnected rfl rfl rfl (by decide +kernel) ⟨Nat.le_of_ble_eq_true rfl, Nat.le_of_ble_eq_true rfl⟩) hK hP hD hS hA (tbX_bl) (tbX_to hT hS (bw_free (wr := []) hD hS hA)) 0 rfl rfl rfl hl.1 rfl (Nat.le_of_ble_eq_true rfl) dX0_conditionsNow_30 ⟨Nat.le_of_ble_eq_true rfl, Nat.le_of_ble_eq_true rfl⟩ (fun q2 u H locs hu hP hD hS => ?_)
    obtain ⟨hr1, rfl⟩ := hu
    subst hr1
    have hP : va_P D vwC2 (wdX cI h0 a0 a1 a2 a3 g4 g5 g6 g7 g8 g9 g10 g11 g12 g13 g14 g15 g16 g17 r0 r1 r2 r3) H := hP
    have hD : va_D A (wdX cI h0 a0 a1 a2 a3 g4 g5 g6 g7 g8 g9 g10 g11 g12 g13 g14 g15 g16 g17 r0 r1 r2 r3) := hD
    refine lv_if_eq (tgt := 50) hx hb dX0_conditionsNow_33 (by decide) (fun hc33 => ?_) (fun hc33 => ?_)
    · rw [if_pos hc33] at hX
      exact J50 (y1 ||| y0) _ _ ls (lv_sub hl [0] rfl) hP hD hS hX
    · rw [if_neg hc33] at hX
      unfold bX_conditionsNow_36 at hX
      refine lv_aload_n hx hb dX0_conditionsNow_36 rfl (lv_at hl 0 rfl) ?_
      refine va_get (D := D) (ci := 0) (v := .ref a2) (C := RX0) (T := TX0) (N := 18) hx hb hts hinU hown hK hP 0 rfl rfl 2 (by decide) (hts (.fieldLink RX0 27 "BloodCircuitChannels" "conditioned" "[I") (by decide +kernel)) (fun _ h9 => h9) rfl dX0_conditionsNow_37 ?_
      refine lv_iconst (v := 4) hx hb dX0_conditionsNow_40 (by decide +kernel) ?_
      refine bw_ld hx hb hK hP 3 0 rfl rfl 4 (by decide +kernel) (bw_in (by decide +kernel)) dX0_conditionsNow_41 ?_
      refine lv_iconst (v := 1) hx hb dX0_conditionsNow_42 (by decide +kernel) ?_
      refine lv_icmp_ne (tgt := 50) hx hb dX0_conditionsNow_43 (by decide) (fun hc43 => ?_) (fun hc43 => ?_)
      · rw [if_neg hc43] at hX
        exact J50 (y1 ||| y0) _ _ ls (lv_sub hl [0] rfl) hP hD hS hX
      · rw [if_pos hc43] at hX
        unfold bX_conditionsNow_46 at hX
        refine lv_iconst (v := 4) hx hb dX0_conditionsNow_46 (by decide +kernel) ?_
        refine lv_goto (tgt := 51) hx hb dX0_conditionsNow_47 (by decide) ?_
        exact J51 4 (y1 ||| y0) _ _ ls (lv_sub hl [0] rfl) hP hD hS hX
  have J14 : ∀ (y0 : Int32) (H : Heap) (locs : List Loc) (ls : Array Slot), lv_has ls 1 [(0, .ref h0)] → va_P D vwC2 (wdX cI h0 a0 a1 a2 a3 g4 g5 g6 g7 g8 g9 g10 g11 g12 g13 g14 g15 g16 g17 r0 r1 r2 r3) H → va_D A (wdX cI h0 a0 a1 a2 a3 g4 g5 g6 g7 g8 g9 g10 g11 g12 g13 g14 g15 g16 g17 r0 r1 r2 r3) → va_S A s.heap H locs → bX_conditionsNow_14 g4 g5 g6 g7 g8 g9 g10 g11 g12 g13 g14 g15 g16 g17 r0 r1 r2 r3 y0 = X → W p l e (headSpec wsX0_conditionsNow rmX_conditionsNow).room s m ([.ref h0] : List Value).toArray below meth c H locs 0 0 Q (F0 m 14 ls [.int y0]) := by
    intro y0 H locs ls hl hP hD hS hX
    unfold bX_conditionsNow_14 at hX
    refine lv_aload_n hx hb dX0_conditionsNow_14 rfl (lv_at hl 0 rfl) ?_
    refine va_get (D := D) (ci := 0) (v := .int g17) (C := RX0) (T := TX0) (N := 18) hx hb hts hinU hown hK hP 0 rfl rfl 17 (by decide) (hts (.fieldLink RX0 133 "BloodCircuitChannels" "venousOutTicks" "I") (by decide +kernel)) (fun _ h9 => h9) rfl dX0_conditionsNow_15 ?_
    refine lv_bipush (v := 30) hx hb dX0_conditionsNow_18 (by decide +kernel) ?_
    refine lv_icmp_lt (tgt := 27) hx hb dX0_conditionsNow_20 (by decide) (fun hc20 => ?_) (fun hc20 => ?_)
    · rw [if_pos hc20] at hX
      unfold bX_conditionsNow_27 at hX
      refine lv_iconst (v := 0) hx hb dX0_conditionsNow_27 (by decide +kernel) ?_
      exact J28 0 y0 _ _ ls (lv_sub hl [0] rfl) hP hD hS hX
    · rw [if_neg hc20] at hX
      unfold bX_conditionsNow_23 at hX
      refine lv_iconst (v := 2) hx hb dX0_conditionsNow_23 (by decide +kernel) ?_
      refine lv_goto (tgt := 28) hx hb dX0_conditionsNow_24 (by decide) ?_
      exact J28 2 y0 _ _ ls (lv_sub hl [0] rfl) hP hD hS hX
  unfold sX_conditionsNow at hX
  unfold bX_conditionsNow_0 at hX
  refine lv_aload_n hx hb dX0_conditionsNow_0 rfl (lv_at hl 0 rfl) ?_
  refine va_get (D := D) (ci := 0) (v := .int g16) (C := RX0) (T := TX0) (N := 18) hx hb hts hinU hown hK hP 0 rfl rfl 16 (by decide) (hts (.fieldLink RX0 130 "BloodCircuitChannels" "arterialOutTicks" "I") (by decide +kernel)) (fun _ h9 => h9) rfl dX0_conditionsNow_1 ?_
  refine lv_bipush (v := 30) hx hb dX0_conditionsNow_4 (by decide +kernel) ?_
  refine lv_icmp_lt (tgt := 13) hx hb dX0_conditionsNow_6 (by decide) (fun hc6 => ?_) (fun hc6 => ?_)
  · rw [if_pos hc6] at hX
    unfold bX_conditionsNow_13 at hX
    refine lv_iconst (v := 0) hx hb dX0_conditionsNow_13 (by decide +kernel) ?_
    exact J14 0 _ _ ls (lv_sub hl [0] rfl) hP hD hS hX
  · rw [if_neg hc6] at hX
    unfold bX_conditionsNow_9 at hX
    refine lv_iconst (v := 1) hx hb dX0_conditionsNow_9 (by decide +kernel) ?_
    refine lv_goto (tgt := 14) hx hb dX0_conditionsNow_10 (by decide) ?_
    exact J14 1 _ _ ls (lv_sub hl [0] rfl) hP hD hS hX
