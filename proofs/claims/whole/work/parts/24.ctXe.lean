abbrev rmX_makeTick : Room := { frames := 3, cells := 0, slots := 0, locals := 67 }
set_option maxHeartbeats 4000000 in
set_option maxRecDepth 100000 in
theorem ctX_makeTick (l : Launch) (D : va_G) (cI : ClassId) (h0 a0 a1 a2 a3 sz : Nat) (g4 g5 g6 g7 g8 g9 g10 g11 g12 g13 g14 g15 g16 g17 : Int32) (r0 r1 r2 r3 : Nat → Int32)   : Met l yX0_makeTick wsX0_makeTick rmX_makeTick (va_Pc [.ref h0] (bw_pr D vwC2 [(cI, .int)] (wdX cI h0 a0 a1 a2 a3 g4 g5 g6 g7 g8 g9 g10 g11 g12 g13 g14 g15 g16 g17 r0 r1 r2 r3) sz (tbX (va_A (wdX cI h0 a0 a1 a2 a3 g4 g5 g6 g7 g8 g9 g10 g11 g12 g13 g14 g15 g16 g17 r0 r1 r2 r3) sz)))) (va_Qi (fun r u => (r, u) = sX_makeTick g4 g5 g6 g7 g8 g9 g10 g11 g12 g13 g14 g15 g16 g17 r0 r1 r2 r3) (bw_at D vwC2 [(cI, .int)] (wfX cI h0 a0 a1 a2 a3) (va_A (wdX cI h0 a0 a1 a2 a3 g4 g5 g6 g7 g8 g9 g10 g11 g12 g13 g14 g15 g16 g17 r0 r1 r2 r3) sz)) (va_A (wdX cI h0 a0 a1 a2 a3 g4 g5 g6 g7 g8 g9 g10 g11 g12 g13 g14 g15 g16 g17 r0 r1 r2 r3) sz)) 0 0 (va_A (wdX cI h0 a0 a1 a2 a3 g4 g5 g6 g7 g8 g9 g10 g11 g12 g13 g14 g15 g16 g17 r0 r1 r2 r3) sz) := by
  refine Met.ofW (cc := cX0_makeTick) (maxL := 4) (ret := (some .boolean)) (by decide) rfl ?_
  intro p e s m args below meth c s₁ B hml hv
  obtain ⟨rfl, hsz, hP, hK, hD0, hT⟩ := hv
  have hx := B.exec
  have hb := B.bytes
  have hr := B.returns
  have hts := atoms_spec (ws := wsX0_makeTick) B.pre
  have hown : s.vm.findClass RX0 = some m.cls := findClass_of_methodNamed B.named
  have hlocks := B.notSynchronized
  subst hsz
  have hD := hD0.self (sz := s.heap.size)
  generalize hAe : va_A (wdX cI h0 a0 a1 a2 a3 g4 g5 g6 g7 g8 g9 g10 g11 g12 g13 g14 g15 g16 g17 r0 r1 r2 r3) s.heap.size = A at hD hT ⊢
  have hA : ∀ q : Nat, s.heap.size ≤ q → A q := fun q h => by rw [← hAe]; exact Or.inr h
  have hS : va_S A s.heap s.heap [] := va_S.rf
  have hl := lv_entry ([.ref h0]) (n := 4) (Nat.le_of_ble_eq_true rfl)
  rw [lg_entry_eq]
  generalize (lg_sl ([.ref h0]) ++ List.replicate (4 - (lg_sl ([.ref h0])).length) Slot.unset).toArray = ls at hl ⊢
  have hl : lv_has ls 4 [(0, .ref h0)] := hl
  generalize hX : sX_makeTick g4 g5 g6 g7 g8 g9 g10 g11 g12 g13 g14 g15 g16 g17 r0 r1 r2 r3 = X
  refine bw_Q (fun Q hQ => ?_)
  have hinU : ∀ w ∈ wsX00, w ∈ wsX0_makeTick := fun w h => List.mem_cons_of_mem _ (List.mem_append_right _ h)
  have J108 : ∀ (g4 g5 g6 g7 g8 g9 g10 g11 g12 g13 g14 g15 g16 g17 : Int32) (r0 r1 r2 r3 : Nat → Int32) (H : Heap) (locs : List Loc) (ls : Array Slot), lv_has ls 4 [(0, .ref h0)] → va_P D vwC2 (wdX cI h0 a0 a1 a2 a3 g4 g5 g6 g7 g8 g9 g10 g11 g12 g13 g14 g15 g16 g17 r0 r1 r2 r3) H → va_D A (wdX cI h0 a0 a1 a2 a3 g4 g5 g6 g7 g8 g9 g10 g11 g12 g13 g14 g15 g16 g17 r0 r1 r2 r3) → va_S A s.heap H locs → bX_makeTick_108 g4 g5 g6 g7 g8 g9 g10 g11 g12 g13 g14 g15 g16 g17 r0 r1 r2 r3 = X → W p l e (headSpec wsX0_makeTick rmX_makeTick).room s m ([.ref h0] : List Value).toArray below meth c H locs 0 0 Q (F0 m 108 ls []) := by
    intro g4 g5 g6 g7 g8 g9 g10 g11 g12 g13 g14 g15 g16 g17 r0 r1 r2 r3 H locs ls hl hP hD hS hX
    unfold bX_makeTick_108 at hX
    refine lv_iconst (v := 1) hx hb dX0_makeTick_108 (by decide +kernel) ?_
    refine lv_goto (tgt := 113) hx hb dX0_makeTick_109 (by decide) ?_
    subst hQ
    exact W.zret (ty := .boolean) (v := 1) hx hb hr (by decide +kernel) (fun t ht hW => ⟨⟨1, (g4, g5, g6, g7, g8, g9, g10, g11, g12, g13, g14, g15, g16, g17, r0, r1, r2, r3), rfl, hX, by rw [ht]; exact hP, va_K.moved hW.alike hK, hD⟩, hS.F ht⟩) hS.2.2 dX0_makeTick_113
  have J88 : ∀ (g4 g5 g6 g7 g8 g9 g10 g11 g12 g13 g14 g15 g16 g17 : Int32) (r0 r1 r2 r3 : Nat → Int32) (x1 : Int32) (x2 : Int32) (H : Heap) (locs : List Loc) (ls : Array Slot), lv_has ls 4 [(0, .ref h0), (1, .int x1), (2, .int x2)] → va_P D vwC2 (wdX cI h0 a0 a1 a2 a3 g4 g5 g6 g7 g8 g9 g10 g11 g12 g13 g14 g15 g16 g17 r0 r1 r2 r3) H → va_D A (wdX cI h0 a0 a1 a2 a3 g4 g5 g6 g7 g8 g9 g10 g11 g12 g13 g14 g15 g16 g17 r0 r1 r2 r3) → va_S A s.heap H locs → bX_makeTick_88 g4 g5 g6 g7 g8 g9 g10 g11 g12 g13 g14 g15 g16 g17 r0 r1 r2 r3 x1 x2 = X → W p l e (headSpec wsX0_makeTick rmX_makeTick).room s m ([.ref h0] : List Value).toArray below meth c H locs 0 0 Q (F0 m 88 ls []) := by
    intro g4 g5 g6 g7 g8 g9 g10 g11 g12 g13 g14 g15 g16 g17 r0 r1 r2 r3 x1 x2 H locs ls hl hP hD hS hX
    unfold bX_makeTick_88 at hX
    refine lv_aload_n hx hb dX0_makeTick_88 rfl (lv_at hl 0 rfl) ?_
    refine bw_Vv (wr := []) (As := []) (rest := []) ⟨hx, hb, hml, hown, hts⟩ (ctX_countTowardsEnd l D cI h0 a0 a1 a2 a3 _ g4 g5 g6 g7 g8 g9 g10 g11 g12 g13 g14 g15 g16 g17 r0 r1 r2 r3) (cwV 0 hts gX0_makeTick_X0_countTowardsEnd rfl rfl rfl (by decide +kernel) ⟨Nat.le_of_ble_eq_true rfl, Nat.le_of_ble_eq_true rfl⟩) hK hP hD hS hA (tbX_bl) (tbX_to hT hS (bw_free (wr := []) hD hS hA)) 0 rfl rfl rfl hl.1 rfl (Nat.le_of_ble_eq_true rfl) dX0_makeTick_89 ⟨Nat.le_of_ble_eq_true rfl, Nat.le_of_ble_eq_true rfl⟩ (fun u H locs hu hP hD hS => ?_)
    obtain ⟨g4c1, g5c1, g6c1, g7c1, g8c1, g9c1, g10c1, g11c1, g12c1, g13c1, g14c1, g15c1, g16c1, g17c1, r0c1, r1c1, r2c1, r3c1⟩ := u
    have hu1 := hu
    rw [← hu] at hX
    have hP : va_P D vwC2 (wdX cI h0 a0 a1 a2 a3 g4c1 g5c1 g6c1 g7c1 g8c1 g9c1 g10c1 g11c1 g12c1 g13c1 g14c1 g15c1 g16c1 g17c1 r0c1 r1c1 r2c1 r3c1) H := hP
    have hD : va_D A (wdX cI h0 a0 a1 a2 a3 g4c1 g5c1 g6c1 g7c1 g8c1 g9c1 g10c1 g11c1 g12c1 g13c1 g14c1 g15c1 g16c1 g17c1 r0c1 r1c1 r2c1 r3c1) := hD
    have hX : bX_makeTick_92 g4c1 g5c1 g6c1 g7c1 g8c1 g9c1 g10c1 g11c1 g12c1 g13c1 g14c1 g15c1 g16c1 g17c1 r0c1 r1c1 r2c1 r3c1 x1 x2 = X := hX
    unfold bX_makeTick_92 at hX
    refine lv_aload_n hx hb dX0_makeTick_92 rfl (lv_at hl 0 rfl) ?_
    refine va_get (D := D) (ci := 0) (v := .int g5c1) (C := RX0) (T := TX0) (N := 18) hx hb hts hinU hown hK hP 0 rfl rfl 5 (by decide) (hts (.fieldLink RX0 65 "BloodCircuitChannels" "alarms" "I") (by decide +kernel)) (fun _ h9 => h9) rfl dX0_makeTick_93 ?_
    refine lv_iload_n hx hb dX0_makeTick_96 rfl (lv_at hl 1 rfl) ?_
    refine lv_icmp_ne (tgt := 108) hx hb dX0_makeTick_97 (by decide) (fun hc97 => ?_) (fun hc97 => ?_)
    · rw [if_neg hc97] at hX
      exact J108 g4c1 g5c1 g6c1 g7c1 g8c1 g9c1 g10c1 g11c1 g12c1 g13c1 g14c1 g15c1 g16c1 g17c1 r0c1 r1c1 r2c1 r3c1 _ _ ls (lv_sub hl [0] rfl) hP hD hS hX
    · rw [if_pos hc97] at hX
      unfold bX_makeTick_100 at hX
      refine lv_aload_n hx hb dX0_makeTick_100 rfl (lv_at hl 0 rfl) ?_
      refine va_get (D := D) (ci := 0) (v := .int g4c1) (C := RX0) (T := TX0) (N := 18) hx hb hts hinU hown hK hP 0 rfl rfl 4 (by decide) (hts (.fieldLink RX0 33 "BloodCircuitChannels" "phase" "I") (by decide +kernel)) (fun _ h9 => h9) rfl dX0_makeTick_101 ?_
      refine lv_iload_n hx hb dX0_makeTick_104 rfl (lv_at hl 2 rfl) ?_
      refine lv_icmp_eq (tgt := 112) hx hb dX0_makeTick_105 (by decide) (fun hc105 => ?_) (fun hc105 => ?_)
      · rw [if_pos hc105] at hX
        unfold bX_makeTick_112 at hX
        refine lv_iconst (v := 0) hx hb dX0_makeTick_112 (by decide +kernel) ?_
        subst hQ
        exact W.zret (ty := .boolean) (v := 0) hx hb hr (by decide +kernel) (fun t ht hW => ⟨⟨0, (g4c1, g5c1, g6c1, g7c1, g8c1, g9c1, g10c1, g11c1, g12c1, g13c1, g14c1, g15c1, g16c1, g17c1, r0c1, r1c1, r2c1, r3c1), rfl, hX, by rw [ht]; exact hP, va_K.moved hW.alike hK, hD⟩, hS.F ht⟩) hS.2.2 dX0_makeTick_113
      · rw [if_neg hc105] at hX
        exact J108 g4c1 g5c1 g6c1 g7c1 g8c1 g9c1 g10c1 g11c1 g12c1 g13c1 g14c1 g15c1 g16c1 g17c1 r0c1 r1c1 r2c1 r3c1 _ _ ls (lv_sub hl [0] rfl) hP hD hS hX
  have J62 : ∀ (g4 g5 g6 g7 g8 g9 g10 g11 g12 g13 g14 g15 g16 g17 : Int32) (r0 r1 r2 r3 : Nat → Int32) (x1 : Int32) (x2 : Int32) (y0 : Int32) (H : Heap) (locs : List Loc) (ls : Array Slot), lv_has ls 4 [(0, .ref h0), (1, .int x1), (2, .int x2)] → va_P D vwC2 (wdX cI h0 a0 a1 a2 a3 g4 g5 g6 g7 g8 g9 g10 g11 g12 g13 g14 g15 g16 g17 r0 r1 r2 r3) H → va_D A (wdX cI h0 a0 a1 a2 a3 g4 g5 g6 g7 g8 g9 g10 g11 g12 g13 g14 g15 g16 g17 r0 r1 r2 r3) → va_S A s.heap H locs → bX_makeTick_62 g4 g5 g6 g7 g8 g9 g10 g11 g12 g13 g14 g15 g16 g17 r0 r1 r2 r3 x1 x2 y0 = X → W p l e (headSpec wsX0_makeTick rmX_makeTick).room s m ([.ref h0] : List Value).toArray below meth c H locs 0 0 Q (F0 m 62 ls [.int y0, .ref h0, .ref h0]) := by
    intro g4 g5 g6 g7 g8 g9 g10 g11 g12 g13 g14 g15 g16 g17 r0 r1 r2 r3 x1 x2 y0 H locs ls hl hP hD hS hX
    unfold bX_makeTick_62 at hX
    refine bw_Vi (wr := []) (As := [.int y0]) (rest := [.ref h0]) ⟨hx, hb, hml, hown, hts⟩ (ctX_afterProtection l D cI h0 a0 a1 a2 a3 _ g4 g5 g6 g7 g8 g9 g10 g11 g12 g13 g14 g15 g16 g17 r0 r1 r2 r3 y0) (cwV 1 hts gX0_makeTick_X0_afterProtection rfl rfl rfl (by decide +kernel) ⟨Nat.le_of_ble_eq_true rfl, Nat.le_of_ble_eq_true rfl⟩) hK hP hD hS hA (tbX_bl) (tbX_to hT hS (bw_free (wr := []) hD hS hA)) 0 rfl rfl rfl hl.1 rfl (Nat.le_of_ble_eq_true rfl) dX0_makeTick_62 ⟨Nat.le_of_ble_eq_true rfl, Nat.le_of_ble_eq_true rfl⟩ (fun q2 u H locs hu hP hD hS => ?_)
    obtain ⟨g4c2, g5c2, g6c2, g7c2, g8c2, g9c2, g10c2, g11c2, g12c2, g13c2, g14c2, g15c2, g16c2, g17c2, r0c2, r1c2, r2c2, r3c2⟩ := u
    have hu2 := hu
    rw [← hu] at hX
    have hP : va_P D vwC2 (wdX cI h0 a0 a1 a2 a3 g4c2 g5c2 g6c2 g7c2 g8c2 g9c2 g10c2 g11c2 g12c2 g13c2 g14c2 g15c2 g16c2 g17c2 r0c2 r1c2 r2c2 r3c2) H := hP
    have hD : va_D A (wdX cI h0 a0 a1 a2 a3 g4c2 g5c2 g6c2 g7c2 g8c2 g9c2 g10c2 g11c2 g12c2 g13c2 g14c2 g15c2 g16c2 g17c2 r0c2 r1c2 r2c2 r3c2) := hD
    have hX : bX_makeTick_65 g4c2 g5c2 g6c2 g7c2 g8c2 g9c2 g10c2 g11c2 g12c2 g13c2 g14c2 g15c2 g16c2 g17c2 r0c2 r1c2 r2c2 r3c2 x1 x2 q2 = X := hX
    unfold bX_makeTick_65 at hX
    refine va_put (D := D) (ci := 0) (v := .int q2) (ty := .int) (C := RX0) (T := TX0) (N := 18) hx hb hts hinU tyX0 tyX0_ok nmX0 hown hK hP hD hS 0 rfl rfl 7 (by decide) (hts (.fieldLink RX0 74 "BloodCircuitChannels" "outputs" "I") (by decide +kernel)) (fun _ h9 => h9) rfl (by decide +kernel) rfl rfl (Nat.le_of_ble_eq_true rfl) dX0_makeTick_65 (fun H locs hP hD hS => ?_)
    have hP : va_P D vwC2 (wdX cI h0 a0 a1 a2 a3 g4c2 g5c2 g6c2 q2 g8c2 g9c2 g10c2 g11c2 g12c2 g13c2 g14c2 g15c2 g16c2 g17c2 r0c2 r1c2 r2c2 r3c2) H := hP
    have hD : va_D A (wdX cI h0 a0 a1 a2 a3 g4c2 g5c2 g6c2 q2 g8c2 g9c2 g10c2 g11c2 g12c2 g13c2 g14c2 g15c2 g16c2 g17c2 r0c2 r1c2 r2c2 r3c2) := hD
    refine lv_aload_n hx hb dX0_makeTick_68 rfl (lv_at hl 0 rfl) ?_
    refine va_get (D := D) (ci := 0) (v := .int q2) (C := RX0) (T := TX0) (N := 18) hx hb hts hinU hown hK hP 0 rfl rfl 7 (by decide) (hts (.fieldLink RX0 74 "BloodCircuitChannels" "outputs" "I") (by decide +kernel)) (fun _ h9 => h9) rfl dX0_makeTick_69 ?_
    refine lv_bipush (v := 8) hx hb dX0_makeTick_72 (by decide +kernel) ?_
    refine lv_iand hx hb dX0_makeTick_74 ?_
    refine lv_if_eq (tgt := 88) hx hb dX0_makeTick_75 (by decide) (fun hc75 => ?_) (fun hc75 => ?_)
    · rw [if_pos hc75] at hX
      exact J88 g4c2 g5c2 g6c2 q2 g8c2 g9c2 g10c2 g11c2 g12c2 g13c2 g14c2 g15c2 g16c2 g17c2 r0c2 r1c2 r2c2 r3c2 x1 x2 _ _ ls (lv_sub hl [0, 1, 2] rfl) hP hD hS hX
    · rw [if_neg hc75] at hX
      unfold bX_makeTick_78 at hX
      refine lv_aload_n hx hb dX0_makeTick_78 rfl (lv_at hl 0 rfl) ?_
      refine lv_dup hx hb dX0_makeTick_79 rfl ?_
      refine va_get (D := D) (ci := 0) (v := .int g11c2) (C := RX0) (T := TX0) (N := 18) hx hb hts hinU hown hK hP 0 rfl rfl 11 (by decide) (hts (.fieldLink RX0 83 "BloodCircuitChannels" "strokes" "I") (by decide +kernel)) (fun _ h9 => h9) rfl dX0_makeTick_80 ?_
      refine lv_iconst (v := 1) hx hb dX0_makeTick_83 (by decide +kernel) ?_
      refine lv_iadd hx hb dX0_makeTick_84 ?_
      refine va_put (D := D) (ci := 0) (v := .int (g11c2 + 1)) (ty := .int) (C := RX0) (T := TX0) (N := 18) hx hb hts hinU tyX0 tyX0_ok nmX0 hown hK hP hD hS 0 rfl rfl 11 (by decide) (hts (.fieldLink RX0 83 "BloodCircuitChannels" "strokes" "I") (by decide +kernel)) (fun _ h9 => h9) rfl (by decide +kernel) rfl rfl (Nat.le_of_ble_eq_true rfl) dX0_makeTick_85 (fun H locs hP hD hS => ?_)
      have hP : va_P D vwC2 (wdX cI h0 a0 a1 a2 a3 g4c2 g5c2 g6c2 q2 g8c2 g9c2 g10c2 (g11c2 + 1) g12c2 g13c2 g14c2 g15c2 g16c2 g17c2 r0c2 r1c2 r2c2 r3c2) H := hP
      have hD : va_D A (wdX cI h0 a0 a1 a2 a3 g4c2 g5c2 g6c2 q2 g8c2 g9c2 g10c2 (g11c2 + 1) g12c2 g13c2 g14c2 g15c2 g16c2 g17c2 r0c2 r1c2 r2c2 r3c2) := hD
      exact J88 g4c2 g5c2 g6c2 q2 g8c2 g9c2 g10c2 (g11c2 + 1) g12c2 g13c2 g14c2 g15c2 g16c2 g17c2 r0c2 r1c2 r2c2 r3c2 x1 x2 _ _ ls (lv_sub hl [0, 1, 2] rfl) hP hD hS hX
  unfold sX_makeTick at hX
  unfold bX_makeTick_0 at hX
  refine lv_aload_n hx hb dX0_makeTick_0 rfl (lv_at hl 0 rfl) ?_
  refine va_get (D := D) (ci := 0) (v := .int g5) (C := RX0) (T := TX0) (N := 18) hx hb hts hinU hown hK hP 0 rfl rfl 5 (by decide) (hts (.fieldLink RX0 65 "BloodCircuitChannels" "alarms" "I") (by decide +kernel)) (fun _ h9 => h9) rfl dX0_makeTick_1 ?_
  refine lv_istore_n (lv' := [(1, .int g5), (0, .ref h0)]) hx hb dX0_makeTick_4 rfl hl (by decide) rfl (fun ls hl => ?_)
  refine lv_aload_n hx hb dX0_makeTick_5 rfl (lv_at hl 1 rfl) ?_
  refine va_get (D := D) (ci := 0) (v := .int g4) (C := RX0) (T := TX0) (N := 18) hx hb hts hinU hown hK hP 0 rfl rfl 4 (by decide) (hts (.fieldLink RX0 33 "BloodCircuitChannels" "phase" "I") (by decide +kernel)) (fun _ h9 => h9) rfl dX0_makeTick_6 ?_
  refine lv_istore_n (lv' := [(2, .int g4), (1, .int g5), (0, .ref h0)]) hx hb dX0_makeTick_9 rfl hl (by decide) rfl (fun ls hl => ?_)
  refine lv_aload_n hx hb dX0_makeTick_10 rfl (lv_at hl 2 rfl) ?_
  refine bw_Vv (wr := []) (As := []) (rest := []) ⟨hx, hb, hml, hown, hts⟩ (ctX_conditionSensors l D cI h0 a0 a1 a2 a3 _ g4 g5 g6 g7 g8 g9 g10 g11 g12 g13 g14 g15 g16 g17 r0 r1 r2 r3) (cwV 0 hts gX0_makeTick_X0_conditionSensors rfl rfl rfl (by decide +kernel) ⟨Nat.le_of_ble_eq_true rfl, Nat.le_of_ble_eq_true rfl⟩) hK hP hD hS hA (tbX_bl) (tbX_to hT hS (bw_free (wr := []) hD hS hA)) 0 rfl rfl rfl hl.1 rfl (Nat.le_of_ble_eq_true rfl) dX0_makeTick_11 ⟨Nat.le_of_ble_eq_true rfl, Nat.le_of_ble_eq_true rfl⟩ (fun u H locs hu hP hD hS => ?_)
  obtain ⟨g4c3, g5c3, g6c3, g7c3, g8c3, g9c3, g10c3, g11c3, g12c3, g13c3, g14c3, g15c3, g16c3, g17c3, r0c3, r1c3, r2c3, r3c3⟩ := u
  have hu3 := hu
  rw [← hu] at hX
  have hP : va_P D vwC2 (wdX cI h0 a0 a1 a2 a3 g4c3 g5c3 g6c3 g7c3 g8c3 g9c3 g10c3 g11c3 g12c3 g13c3 g14c3 g15c3 g16c3 g17c3 r0c3 r1c3 r2c3 r3c3) H := hP
  have hD : va_D A (wdX cI h0 a0 a1 a2 a3 g4c3 g5c3 g6c3 g7c3 g8c3 g9c3 g10c3 g11c3 g12c3 g13c3 g14c3 g15c3 g16c3 g17c3 r0c3 r1c3 r2c3 r3c3) := hD
  have hX : bX_makeTick_14 g4c3 g5c3 g6c3 g7c3 g8c3 g9c3 g10c3 g11c3 g12c3 g13c3 g14c3 g15c3 g16c3 g17c3 r0c3 r1c3 r2c3 r3c3 g5 g4 = X := hX
  unfold bX_makeTick_14 at hX
  refine lv_aload_n hx hb dX0_makeTick_14 rfl (lv_at hl 2 rfl) ?_
  refine bw_Vv (wr := []) (As := []) (rest := []) ⟨hx, hb, hml, hown, hts⟩ (ctX_countTicksInARow l D cI h0 a0 a1 a2 a3 _ g4c3 g5c3 g6c3 g7c3 g8c3 g9c3 g10c3 g11c3 g12c3 g13c3 g14c3 g15c3 g16c3 g17c3 r0c3 r1c3 r2c3 r3c3) (cwV 0 hts gX0_makeTick_X0_countTicksInARow rfl rfl rfl (by decide +kernel) ⟨Nat.le_of_ble_eq_true rfl, Nat.le_of_ble_eq_true rfl⟩) hK hP hD hS hA (tbX_bl) (tbX_to hT hS (bw_free (wr := []) hD hS hA)) 0 rfl rfl rfl hl.1 rfl (Nat.le_of_ble_eq_true rfl) dX0_makeTick_15 ⟨Nat.le_of_ble_eq_true rfl, Nat.le_of_ble_eq_true rfl⟩ (fun u H locs hu hP hD hS => ?_)
  obtain ⟨g4c4, g5c4, g6c4, g7c4, g8c4, g9c4, g10c4, g11c4, g12c4, g13c4, g14c4, g15c4, g16c4, g17c4, r0c4, r1c4, r2c4, r3c4⟩ := u
  have hu4 := hu
  rw [← hu] at hX
  have hP : va_P D vwC2 (wdX cI h0 a0 a1 a2 a3 g4c4 g5c4 g6c4 g7c4 g8c4 g9c4 g10c4 g11c4 g12c4 g13c4 g14c4 g15c4 g16c4 g17c4 r0c4 r1c4 r2c4 r3c4) H := hP
  have hD : va_D A (wdX cI h0 a0 a1 a2 a3 g4c4 g5c4 g6c4 g7c4 g8c4 g9c4 g10c4 g11c4 g12c4 g13c4 g14c4 g15c4 g16c4 g17c4 r0c4 r1c4 r2c4 r3c4) := hD
  have hX : bX_makeTick_18 g4c4 g5c4 g6c4 g7c4 g8c4 g9c4 g10c4 g11c4 g12c4 g13c4 g14c4 g15c4 g16c4 g17c4 r0c4 r1c4 r2c4 r3c4 g5 g4 = X := hX
  unfold bX_makeTick_18 at hX
  refine lv_aload_n hx hb dX0_makeTick_18 rfl (lv_at hl 2 rfl) ?_
  refine lv_aload_n hx hb dX0_makeTick_19 rfl (lv_at hl 2 rfl) ?_
  refine bw_Vi (wr := []) (As := []) (rest := [.ref h0]) ⟨hx, hb, hml, hown, hts⟩ (ctX_conditionsNow l D cI h0 a0 a1 a2 a3 _ g4c4 g5c4 g6c4 g7c4 g8c4 g9c4 g10c4 g11c4 g12c4 g13c4 g14c4 g15c4 g16c4 g17c4 r0c4 r1c4 r2c4 r3c4) (cwV 0 hts gX0_makeTick_X0_conditionsNow rfl rfl rfl (by decide +kernel) ⟨Nat.le_of_ble_eq_true rfl, Nat.le_of_ble_eq_true rfl⟩) hK hP hD hS hA (tbX_bl) (tbX_to hT hS (bw_free (wr := []) hD hS hA)) 0 rfl rfl rfl hl.1 rfl (Nat.le_of_ble_eq_true rfl) dX0_makeTick_20 ⟨Nat.le_of_ble_eq_true rfl, Nat.le_of_ble_eq_true rfl⟩ (fun q5 u H locs hu hP hD hS => ?_)
  obtain ⟨hr1, rfl⟩ := hu
  subst hr1
  have hP : va_P D vwC2 (wdX cI h0 a0 a1 a2 a3 g4c4 g5c4 g6c4 g7c4 g8c4 g9c4 g10c4 g11c4 g12c4 g13c4 g14c4 g15c4 g16c4 g17c4 r0c4 r1c4 r2c4 r3c4) H := hP
  have hD : va_D A (wdX cI h0 a0 a1 a2 a3 g4c4 g5c4 g6c4 g7c4 g8c4 g9c4 g10c4 g11c4 g12c4 g13c4 g14c4 g15c4 g16c4 g17c4 r0c4 r1c4 r2c4 r3c4) := hD
  refine va_put (D := D) (ci := 0) (v := .int (sX_conditionsNow g4c4 g5c4 g6c4 g7c4 g8c4 g9c4 g10c4 g11c4 g12c4 g13c4 g14c4 g15c4 g16c4 g17c4 r0c4 r1c4 r2c4 r3c4)) (ty := .int) (C := RX0) (T := TX0) (N := 18) hx hb hts hinU tyX0 tyX0_ok nmX0 hown hK hP hD hS 0 rfl rfl 6 (by decide) (hts (.fieldLink RX0 68 "BloodCircuitChannels" "conditions" "I") (by decide +kernel)) (fun _ h9 => h9) rfl (by decide +kernel) rfl rfl (Nat.le_of_ble_eq_true rfl) dX0_makeTick_23 (fun H locs hP hD hS => ?_)
  have hP : va_P D vwC2 (wdX cI h0 a0 a1 a2 a3 g4c4 g5c4 (sX_conditionsNow g4c4 g5c4 g6c4 g7c4 g8c4 g9c4 g10c4 g11c4 g12c4 g13c4 g14c4 g15c4 g16c4 g17c4 r0c4 r1c4 r2c4 r3c4) g7c4 g8c4 g9c4 g10c4 g11c4 g12c4 g13c4 g14c4 g15c4 g16c4 g17c4 r0c4 r1c4 r2c4 r3c4) H := hP
  have hD : va_D A (wdX cI h0 a0 a1 a2 a3 g4c4 g5c4 (sX_conditionsNow g4c4 g5c4 g6c4 g7c4 g8c4 g9c4 g10c4 g11c4 g12c4 g13c4 g14c4 g15c4 g16c4 g17c4 r0c4 r1c4 r2c4 r3c4) g7c4 g8c4 g9c4 g10c4 g11c4 g12c4 g13c4 g14c4 g15c4 g16c4 g17c4 r0c4 r1c4 r2c4 r3c4) := hD
  refine lv_aload_n hx hb dX0_makeTick_26 rfl (lv_at hl 2 rfl) ?_
  refine lv_dup hx hb dX0_makeTick_27 rfl ?_
  refine va_get (D := D) (ci := 0) (v := .int g5c4) (C := RX0) (T := TX0) (N := 18) hx hb hts hinU hown hK hP 0 rfl rfl 5 (by decide) (hts (.fieldLink RX0 65 "BloodCircuitChannels" "alarms" "I") (by decide +kernel)) (fun _ h9 => h9) rfl dX0_makeTick_28 ?_
  refine lv_aload_n hx hb dX0_makeTick_31 rfl (lv_at hl 2 rfl) ?_
  refine va_get (D := D) (ci := 0) (v := .int (sX_conditionsNow g4c4 g5c4 g6c4 g7c4 g8c4 g9c4 g10c4 g11c4 g12c4 g13c4 g14c4 g15c4 g16c4 g17c4 r0c4 r1c4 r2c4 r3c4)) (C := RX0) (T := TX0) (N := 18) hx hb hts hinU hown hK hP 0 rfl rfl 6 (by decide) (hts (.fieldLink RX0 68 "BloodCircuitChannels" "conditions" "I") (by decide +kernel)) (fun _ h9 => h9) rfl dX0_makeTick_32 ?_
  refine lv_ior hx hb dX0_makeTick_35 ?_
  refine va_put (D := D) (ci := 0) (v := .int (g5c4 ||| (sX_conditionsNow g4c4 g5c4 g6c4 g7c4 g8c4 g9c4 g10c4 g11c4 g12c4 g13c4 g14c4 g15c4 g16c4 g17c4 r0c4 r1c4 r2c4 r3c4))) (ty := .int) (C := RX0) (T := TX0) (N := 18) hx hb hts hinU tyX0 tyX0_ok nmX0 hown hK hP hD hS 0 rfl rfl 5 (by decide) (hts (.fieldLink RX0 65 "BloodCircuitChannels" "alarms" "I") (by decide +kernel)) (fun _ h9 => h9) rfl (by decide +kernel) rfl rfl (Nat.le_of_ble_eq_true rfl) dX0_makeTick_36 (fun H locs hP hD hS => ?_)
  have hP : va_P D vwC2 (wdX cI h0 a0 a1 a2 a3 g4c4 (g5c4 ||| (sX_conditionsNow g4c4 g5c4 g6c4 g7c4 g8c4 g9c4 g10c4 g11c4 g12c4 g13c4 g14c4 g15c4 g16c4 g17c4 r0c4 r1c4 r2c4 r3c4)) (sX_conditionsNow g4c4 g5c4 g6c4 g7c4 g8c4 g9c4 g10c4 g11c4 g12c4 g13c4 g14c4 g15c4 g16c4 g17c4 r0c4 r1c4 r2c4 r3c4) g7c4 g8c4 g9c4 g10c4 g11c4 g12c4 g13c4 g14c4 g15c4 g16c4 g17c4 r0c4 r1c4 r2c4 r3c4) H := hP
  have hD : va_D A (wdX cI h0 a0 a1 a2 a3 g4c4 (g5c4 ||| (sX_conditionsNow g4c4 g5c4 g6c4 g7c4 g8c4 g9c4 g10c4 g11c4 g12c4 g13c4 g14c4 g15c4 g16c4 g17c4 r0c4 r1c4 r2c4 r3c4)) (sX_conditionsNow g4c4 g5c4 g6c4 g7c4 g8c4 g9c4 g10c4 g11c4 g12c4 g13c4 g14c4 g15c4 g16c4 g17c4 r0c4 r1c4 r2c4 r3c4) g7c4 g8c4 g9c4 g10c4 g11c4 g12c4 g13c4 g14c4 g15c4 g16c4 g17c4 r0c4 r1c4 r2c4 r3c4) := hD
  refine lv_aload_n hx hb dX0_makeTick_39 rfl (lv_at hl 2 rfl) ?_
  refine bw_Vi (wr := []) (As := []) (rest := []) ⟨hx, hb, hml, hown, hts⟩ (ctX_commandsOfControl l D cI h0 a0 a1 a2 a3 _ g4c4 (g5c4 ||| (sX_conditionsNow g4c4 g5c4 g6c4 g7c4 g8c4 g9c4 g10c4 g11c4 g12c4 g13c4 g14c4 g15c4 g16c4 g17c4 r0c4 r1c4 r2c4 r3c4)) (sX_conditionsNow g4c4 g5c4 g6c4 g7c4 g8c4 g9c4 g10c4 g11c4 g12c4 g13c4 g14c4 g15c4 g16c4 g17c4 r0c4 r1c4 r2c4 r3c4) g7c4 g8c4 g9c4 g10c4 g11c4 g12c4 g13c4 g14c4 g15c4 g16c4 g17c4 r0c4 r1c4 r2c4 r3c4) (cwV 0 hts gX0_makeTick_X0_commandsOfControl rfl rfl rfl (by decide +kernel) ⟨Nat.le_of_ble_eq_true rfl, Nat.le_of_ble_eq_true rfl⟩) hK hP hD hS hA (tbX_bl) (tbX_to hT hS (bw_free (wr := []) hD hS hA)) 0 rfl rfl rfl hl.1 rfl (Nat.le_of_ble_eq_true rfl) dX0_makeTick_40 ⟨Nat.le_of_ble_eq_true rfl, Nat.le_of_ble_eq_true rfl⟩ (fun q6 u H locs hu hP hD hS => ?_)
  obtain ⟨g4c6, g5c6, g6c6, g7c6, g8c6, g9c6, g10c6, g11c6, g12c6, g13c6, g14c6, g15c6, g16c6, g17c6, r0c6, r1c6, r2c6, r3c6⟩ := u
  have hu6 := hu
  rw [← hu] at hX
  have hP : va_P D vwC2 (wdX cI h0 a0 a1 a2 a3 g4c6 g5c6 g6c6 g7c6 g8c6 g9c6 g10c6 g11c6 g12c6 g13c6 g14c6 g15c6 g16c6 g17c6 r0c6 r1c6 r2c6 r3c6) H := hP
  have hD : va_D A (wdX cI h0 a0 a1 a2 a3 g4c6 g5c6 g6c6 g7c6 g8c6 g9c6 g10c6 g11c6 g12c6 g13c6 g14c6 g15c6 g16c6 g17c6 r0c6 r1c6 r2c6 r3c6) := hD
  have hX : bX_makeTick_43 g4c6 g5c6 g6c6 g7c6 g8c6 g9c6 g10c6 g11c6 g12c6 g13c6 g14c6 g15c6 g16c6 g17c6 r0c6 r1c6 r2c6 r3c6 g5 g4 q6 = X := hX
  unfold bX_makeTick_43 at hX
  refine lv_istore_n (lv' := [(3, .int q6), (2, .int g4), (1, .int g5), (0, .ref h0)]) hx hb dX0_makeTick_43 rfl hl (by decide) rfl (fun ls hl => ?_)
  refine lv_aload_n hx hb dX0_makeTick_44 rfl (lv_at hl 3 rfl) ?_
  refine lv_aload_n hx hb dX0_makeTick_45 rfl (lv_at hl 3 rfl) ?_
  refine lv_aload_n hx hb dX0_makeTick_46 rfl (lv_at hl 3 rfl) ?_
  refine va_get (D := D) (ci := 0) (v := .int g8c6) (C := RX0) (T := TX0) (N := 18) hx hb hts hinU hown hK hP 0 rfl rfl 8 (by decide) (hts (.fieldLink RX0 37 "BloodCircuitChannels" "substituted" "I") (by decide +kernel)) (fun _ h9 => h9) rfl dX0_makeTick_47 ?_
  refine lv_iconst (v := (-1)) hx hb dX0_makeTick_50 (by decide +kernel) ?_
  refine lv_icmp_ne (tgt := 58) hx hb dX0_makeTick_51 (by decide) (fun hc51 => ?_) (fun hc51 => ?_)
  · rw [if_neg hc51] at hX
    unfold bX_makeTick_58 at hX
    refine lv_aload_n hx hb dX0_makeTick_58 rfl (lv_at hl 3 rfl) ?_
    refine va_get (D := D) (ci := 0) (v := .int g8c6) (C := RX0) (T := TX0) (N := 18) hx hb hts hinU hown hK hP 0 rfl rfl 8 (by decide) (hts (.fieldLink RX0 37 "BloodCircuitChannels" "substituted" "I") (by decide +kernel)) (fun _ h9 => h9) rfl dX0_makeTick_59 ?_
    exact J62 g4c6 g5c6 g6c6 g7c6 g8c6 g9c6 g10c6 g11c6 g12c6 g13c6 g14c6 g15c6 g16c6 g17c6 r0c6 r1c6 r2c6 r3c6 g5 g4 g8c6 _ _ ls (lv_sub hl [3, 2, 1] rfl) hP hD hS hX
  · rw [if_pos hc51] at hX
    unfold bX_makeTick_54 at hX
    refine lv_iload_n hx hb dX0_makeTick_54 rfl (lv_at hl 0 rfl) ?_
    refine lv_goto (tgt := 62) hx hb dX0_makeTick_55 (by decide) ?_
    exact J62 g4c6 g5c6 g6c6 g7c6 g8c6 g9c6 g10c6 g11c6 g12c6 g13c6 g14c6 g15c6 g16c6 g17c6 r0c6 r1c6 r2c6 r3c6 g5 g4 q6 _ _ ls (lv_sub hl [3, 2, 1] rfl) hP hD hS hX
abbrev rmX_tick : Room := { frames := 4, cells := 0, slots := 0, locals := 90 }
set_option maxHeartbeats 4000000 in
set_option maxRecDepth 100000 in
theorem ctX_tick (l : Launch) (D : va_G) (cI : ClassId) (h0 a0 a1 a2 a3 sz : Nat) (g4 g5 g6 g7 g8 g9 g10 g11 g12 g13 g14 g15 g16 g17 : Int32) (r0 r1 r2 r3 : Nat → Int32) (k1 : Int32)  : Met l yX0_tick wsX0_tick rmX_tick (va_Pc [.ref h0, .int k1] (bw_pr D vwC2 [(cI, .int)] (wdX cI h0 a0 a1 a2 a3 g4 g5 g6 g7 g8 g9 g10 g11 g12 g13 g14 g15 g16 g17 r0 r1 r2 r3) sz (tbX (va_A (wdX cI h0 a0 a1 a2 a3 g4 g5 g6 g7 g8 g9 g10 g11 g12 g13 g14 g15 g16 g17 r0 r1 r2 r3) sz)))) (va_Qi (fun r u => (r, u) = sX_tick g4 g5 g6 g7 g8 g9 g10 g11 g12 g13 g14 g15 g16 g17 r0 r1 r2 r3 k1) (bw_at D vwC2 [(cI, .int)] (wfX cI h0 a0 a1 a2 a3) (va_A (wdX cI h0 a0 a1 a2 a3 g4 g5 g6 g7 g8 g9 g10 g11 g12 g13 g14 g15 g16 g17 r0 r1 r2 r3) sz)) (va_A (wdX cI h0 a0 a1 a2 a3 g4 g5 g6 g7 g8 g9 g10 g11 g12 g13 g14 g15 g16 g17 r0 r1 r2 r3) sz)) 0 0 (va_A (wdX cI h0 a0 a1 a2 a3 g4 g5 g6 g7 g8 g9 g10 g11 g12 g13 g14 g15 g16 g17 r0 r1 r2 r3) sz) := by
  refine Met.ofW (cc := cX0_tick) (maxL := 3) (ret := (some .int)) (by decide) rfl ?_
  intro p e s m args below meth c s₁ B hml hv
  obtain ⟨rfl, hsz, hP, hK, hD0, hT⟩ := hv
  have hx := B.exec
  have hb := B.bytes
  have hr := B.returns
  have hts := atoms_spec (ws := wsX0_tick) B.pre
  have hown : s.vm.findClass RX0 = some m.cls := findClass_of_methodNamed B.named
  have hlocks := B.notSynchronized
  subst hsz
  have hD := hD0.self (sz := s.heap.size)
  generalize hAe : va_A (wdX cI h0 a0 a1 a2 a3 g4 g5 g6 g7 g8 g9 g10 g11 g12 g13 g14 g15 g16 g17 r0 r1 r2 r3) s.heap.size = A at hD hT ⊢
  have hA : ∀ q : Nat, s.heap.size ≤ q → A q := fun q h => by rw [← hAe]; exact Or.inr h
  have hS : va_S A s.heap s.heap [] := va_S.rf
  have hl := lv_entry ([.ref h0, .int k1]) (n := 3) (Nat.le_of_ble_eq_true rfl)
  rw [lg_entry_eq]
  generalize (lg_sl ([.ref h0, .int k1]) ++ List.replicate (3 - (lg_sl ([.ref h0, .int k1])).length) Slot.unset).toArray = ls at hl ⊢
  have hl : lv_has ls 3 [(0, .ref h0), (1, .int k1)] := hl
  generalize hX : sX_tick g4 g5 g6 g7 g8 g9 g10 g11 g12 g13 g14 g15 g16 g17 r0 r1 r2 r3 k1 = X
  refine bw_Q (fun Q hQ => ?_)
  have hinU : ∀ w ∈ wsX00, w ∈ wsX0_tick := fun w h => List.mem_cons_of_mem _ (List.mem_append_right _ h)
  have J35 : ∀ (g4 g5 g6 g7 g8 g9 g10 g11 g12 g13 g14 g15 g16 g17 : Int32) (r0 r1 r2 r3 : Nat → Int32) (x1 : Int32) (H : Heap) (locs : List Loc) (ls : Array Slot), lv_has ls 3 [(0, .ref h0), (1, .int x1)] → va_P D vwC2 (wdX cI h0 a0 a1 a2 a3 g4 g5 g6 g7 g8 g9 g10 g11 g12 g13 g14 g15 g16 g17 r0 r1 r2 r3) H → va_D A (wdX cI h0 a0 a1 a2 a3 g4 g5 g6 g7 g8 g9 g10 g11 g12 g13 g14 g15 g16 g17 r0 r1 r2 r3) → va_S A s.heap H locs → bX_tick_35 g4 g5 g6 g7 g8 g9 g10 g11 g12 g13 g14 g15 g16 g17 r0 r1 r2 r3 x1 = X → W p l e (headSpec wsX0_tick rmX_tick).room s m ([.ref h0, .int k1] : List Value).toArray below meth c H locs 0 0 Q (F0 m 35 ls []) := by
    intro g4 g5 g6 g7 g8 g9 g10 g11 g12 g13 g14 g15 g16 g17 r0 r1 r2 r3 x1 H locs ls hl hP hD hS hX
    unfold bX_tick_35 at hX
    refine lv_iload_n hx hb dX0_tick_35 rfl (lv_at hl 1 rfl) ?_
    subst hQ
    exact W.iret (v := x1) hx hb hr (fun t ht hW => ⟨⟨x1, (g4, g5, g6, g7, g8, g9, g10, g11, g12, g13, g14, g15, g16, g17, r0, r1, r2, r3), rfl, hX, by rw [ht]; exact hP, va_K.moved hW.alike hK, hD⟩, hS.F ht⟩) hS.2.2 dX0_tick_36
  have JH15 : ∀ (f k : Nat), k < f → k ≤ 600 → ∀ (g4 g5 g6 g7 g8 g9 g10 g11 g12 g13 g14 g15 g16 g17 : Int32) (r0 r1 r2 r3 : Nat → Int32) (x1 : Int32) (x2 : Int32), (∃ N : Nat, N ≤ 600 ∧ k ≤ N ∧ x1 = nI N ∧ x2 = nI (N + 1 - k)) → ∀ (H : Heap) (locs : List Loc) (ls : Array Slot), lv_has ls 3 [(0, .ref h0), (1, .int x1), (2, .int x2)] → va_P D vwC2 (wdX cI h0 a0 a1 a2 a3 g4 g5 g6 g7 g8 g9 g10 g11 g12 g13 g14 g15 g16 g17 r0 r1 r2 r3) H → va_D A (wdX cI h0 a0 a1 a2 a3 g4 g5 g6 g7 g8 g9 g10 g11 g12 g13 g14 g15 g16 g17 r0 r1 r2 r3) → va_S A s.heap H locs → bX_tick_15 f g4 g5 g6 g7 g8 g9 g10 g11 g12 g13 g14 g15 g16 g17 r0 r1 r2 r3 x1 x2 = X → W p l e (headSpec wsX0_tick rmX_tick).room s m ([.ref h0, .int k1] : List Value).toArray below meth c H locs 0 0 Q (F0 m 15 ls []) := by
    intro f
    induction f with
    | zero => intro k hkf; omega
    | succ f ih =>
      intro k hkf hkN g4 g5 g6 g7 g8 g9 g10 g11 g12 g13 g14 g15 g16 g17 r0 r1 r2 r3 x1 x2 hi H locs ls hl hP hD hS hX
      rw [bX_tick_15_s] at hX
      refine lv_iload_n hx hb dX0_tick_15 rfl (lv_at hl 2 rfl) ?_
      refine lv_iload_n hx hb dX0_tick_16 rfl (lv_at hl 1 rfl) ?_
      refine lv_icmp_gt (tgt := 35) hx hb dX0_tick_17 (by decide) (fun hc17 => ?_) (fun hc17 => ?_)
      · rw [if_pos hc17] at hX
        exact J35 g4 g5 g6 g7 g8 g9 g10 g11 g12 g13 g14 g15 g16 g17 r0 r1 r2 r3 x1 _ _ ls (lv_sub hl [0, 1] rfl) hP hD hS hX
      · rw [if_neg hc17] at hX
        obtain ⟨N, hN2, hkN1, hN1, hx2⟩ := hi
        have hk0 : k ≠ 0 := fun h => hc17 (by rw [hN1, hx2, h]; exact nI_lt (by omega) (by omega))
        obtain ⟨k, rfl⟩ : ∃ k', k = k' + 1 := ⟨k - 1, by omega⟩
        unfold bX_tick_20 at hX
        refine lv_aload_n hx hb dX0_tick_20 rfl (lv_at hl 0 rfl) ?_
        refine bw_Vi (wr := []) (As := []) (rest := []) ⟨hx, hb, hml, hown, hts⟩ (ctX_makeTick l D cI h0 a0 a1 a2 a3 _ g4 g5 g6 g7 g8 g9 g10 g11 g12 g13 g14 g15 g16 g17 r0 r1 r2 r3) (cwV 0 hts gX0_tick_X0_makeTick rfl rfl rfl (by decide +kernel) ⟨Nat.le_of_ble_eq_true rfl, Nat.le_of_ble_eq_true rfl⟩) hK hP hD hS hA (tbX_bl) (tbX_to hT hS (bw_free (wr := []) hD hS hA)) 0 rfl rfl rfl hl.1 rfl (Nat.le_of_ble_eq_true rfl) dX0_tick_21 ⟨Nat.le_of_ble_eq_true rfl, Nat.le_of_ble_eq_true rfl⟩ (fun q1 u H locs hu hP hD hS => ?_)
        obtain ⟨g4c1, g5c1, g6c1, g7c1, g8c1, g9c1, g10c1, g11c1, g12c1, g13c1, g14c1, g15c1, g16c1, g17c1, r0c1, r1c1, r2c1, r3c1⟩ := u
        have hu1 := hu
        rw [← hu] at hX
        have hP : va_P D vwC2 (wdX cI h0 a0 a1 a2 a3 g4c1 g5c1 g6c1 g7c1 g8c1 g9c1 g10c1 g11c1 g12c1 g13c1 g14c1 g15c1 g16c1 g17c1 r0c1 r1c1 r2c1 r3c1) H := hP
        have hD : va_D A (wdX cI h0 a0 a1 a2 a3 g4c1 g5c1 g6c1 g7c1 g8c1 g9c1 g10c1 g11c1 g12c1 g13c1 g14c1 g15c1 g16c1 g17c1 r0c1 r1c1 r2c1 r3c1) := hD
        have hX : bX_tick_24 (bX_tick_15 f) g4c1 g5c1 g6c1 g7c1 g8c1 g9c1 g10c1 g11c1 g12c1 g13c1 g14c1 g15c1 g16c1 g17c1 r0c1 r1c1 r2c1 r3c1 x1 x2 q1 = X := hX
        unfold bX_tick_24 at hX
        refine lv_if_eq (tgt := 29) hx hb dX0_tick_24 (by decide) (fun hc24 => ?_) (fun hc24 => ?_)
        · rw [if_pos hc24] at hX
          unfold bX_tick_29 at hX
          refine lv_iinc (k := 2) (v := x2 + 1) (lv' := [(2, .int (x2 + 1)), (0, .ref h0), (1, .int x1)]) hx hb dX0_tick_29 hl rfl (bw_inc1 _) (by decide) rfl (fun ls hl => ?_)
          refine lv_goto (tgt := 15) hx hb dX0_tick_32 (by decide) ?_
          exact ih k (by omega) (by omega) g4c1 g5c1 g6c1 g7c1 g8c1 g9c1 g10c1 g11c1 g12c1 g13c1 g14c1 g15c1 g16c1 g17c1 r0c1 r1c1 r2c1 r3c1 x1 (x2 + 1) (⟨N, hN2, by omega, hN1, bw_nx hx2 (by omega)⟩) _ _ ls (lv_sub hl [1, 2, 0] rfl) hP hD hS hX
        · rw [if_neg hc24] at hX
          unfold bX_tick_27 at hX
          refine lv_iload_n hx hb dX0_tick_27 rfl (lv_at hl 2 rfl) ?_
          subst hQ
          exact W.iret (v := x2) hx hb hr (fun t ht hW => ⟨⟨x2, (g4c1, g5c1, g6c1, g7c1, g8c1, g9c1, g10c1, g11c1, g12c1, g13c1, g14c1, g15c1, g16c1, g17c1, r0c1, r1c1, r2c1, r3c1), rfl, hX, by rw [ht]; exact hP, va_K.moved hW.alike hK, hD⟩, hS.F ht⟩) hS.2.2 dX0_tick_28
  unfold sX_tick at hX
  unfold bX_tick_0 at hX
  refine lv_iload_n hx hb dX0_tick_0 rfl (lv_at hl 1 rfl) ?_
  refine lv_iconst (v := 1) hx hb dX0_tick_1 (by decide +kernel) ?_
  refine lv_sipush (v := 600) hx hb dX0_tick_2 (by decide +kernel) ?_
  refine bw_Si (As := [.int k1, .int 1, .int 600]) (rest := []) ⟨hx, hb, hml, hown, hts⟩ (ctX_isOutside l _ k1 1 600) (va_cwS 3 hts gX0_tick_X0_isOutside rfl rfl rfl (by decide +kernel) ⟨Nat.le_of_ble_eq_true rfl, Nat.le_of_ble_eq_true rfl⟩) hP hS hA rfl hl.1 rfl (Nat.le_of_ble_eq_true rfl) dX0_tick_5 ⟨Nat.le_of_ble_eq_true rfl, Nat.le_of_ble_eq_true rfl⟩ (fun H locs hP hS => ?_)
  refine lv_if_eq (tgt := 13) hx hb dX0_tick_8 (by decide) (fun hc8 => ?_) (fun hc8 => ?_)
  · rw [if_pos hc8] at hX
    obtain ⟨N, hN2, hN1⟩ := tickN hc8
    unfold bX_tick_13 at hX
    refine lv_iconst (v := 1) hx hb dX0_tick_13 (by decide +kernel) ?_
    refine lv_istore_n (lv' := [(2, .int 1), (0, .ref h0), (1, .int k1)]) hx hb dX0_tick_14 rfl hl (by decide) rfl (fun ls hl => ?_)
    exact JH15 601 N (by omega) (by omega) g4 g5 g6 g7 g8 g9 g10 g11 g12 g13 g14 g15 g16 g17 r0 r1 r2 r3 k1 1 (⟨N, hN2, Nat.le_refl _, hN1, by rw [Nat.add_sub_cancel_left]; decide +kernel⟩) _ _ ls (lv_sub hl [1, 2, 0] rfl) hP hD hS hX
  · rw [if_neg hc8] at hX
    unfold bX_tick_11 at hX
    refine lv_iconst (v := (-1)) hx hb dX0_tick_11 (by decide +kernel) ?_
    subst hQ
    exact W.iret (v := (-1)) hx hb hr (fun t ht hW => ⟨⟨(-1), (g4, g5, g6, g7, g8, g9, g10, g11, g12, g13, g14, g15, g16, g17, r0, r1, r2, r3), rfl, hX, by rw [ht]; exact hP, va_K.moved hW.alike hK, hD⟩, hS.F ht⟩) hS.2.2 dX0_tick_12
