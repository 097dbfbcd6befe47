abbrev rmM_conditionsNow : Room := { frames := 1, cells := 0, slots := 0, locals := 21 }
set_option maxHeartbeats 4000000 in
set_option maxRecDepth 100000 in
theorem ctM_conditionsNow (l : Launch) (D : va_G) (cI : ClassId) (h0 a0 a1 a2 a9 sz : Nat) (g3 g4 g5 g6 g7 g8 g10 g11 g12 g13 g14 g15 g16 g17 g18 : Int32) (r0 r1 r2 r9 : Nat → Int32)   : Met l yXM_conditionsNow wsXM_conditionsNow rmM_conditionsNow (va_Pc [.ref h0] (bw_pr D vwC2 [(cI, .int)] (wdM cI h0 a0 a1 a2 a9 g3 g4 g5 g6 g7 g8 g10 g11 g12 g13 g14 g15 g16 g17 g18 r0 r1 r2 r9) sz (fun _ => True))) (va_Qi (fun r u => r = sM_conditionsNow g3 g4 g5 g6 g7 g8 g10 g11 g12 g13 g14 g15 g16 g17 g18 r0 r1 r2 r9 ∧ u = (g3, g4, g5, g6, g7, g8, g10, g11, g12, g13, g14, g15, g16, g17, g18, r0, r1, r2, r9)) (bw_at D vwC2 [(cI, .int)] (wfM cI h0 a0 a1 a2 a9) (va_A (wdM cI h0 a0 a1 a2 a9 g3 g4 g5 g6 g7 g8 g10 g11 g12 g13 g14 g15 g16 g17 g18 r0 r1 r2 r9) sz)) (va_A (wdM cI h0 a0 a1 a2 a9 g3 g4 g5 g6 g7 g8 g10 g11 g12 g13 g14 g15 g16 g17 g18 r0 r1 r2 r9) sz)) 0 0 (va_A (wdM cI h0 a0 a1 a2 a9 g3 g4 g5 g6 g7 g8 g10 g11 g12 g13 g14 g15 g16 g17 g18 r0 r1 r2 r9) sz) := by
  refine Met.ofW (cc := cXM_conditionsNow) (maxL := 4) (ret := (some .int)) (by decide) rfl ?_
  intro p e s m args below meth c s₁ B hml hv
  obtain ⟨rfl, hsz, hP, hK, hD0, hT⟩ := hv
  have hx := B.exec
  have hb := B.bytes
  have hr := B.returns
  have hts := atoms_spec (ws := wsXM_conditionsNow) B.pre
  have hown : s.vm.findClass RXM = some m.cls := findClass_of_methodNamed B.named
  have hlocks := B.notSynchronized
  subst hsz
  have hD := hD0.self (sz := s.heap.size)
  generalize hAe : va_A (wdM cI h0 a0 a1 a2 a9 g3 g4 g5 g6 g7 g8 g10 g11 g12 g13 g14 g15 g16 g17 g18 r0 r1 r2 r9) s.heap.size = A at hD hT ⊢
  have hA : ∀ q : Nat, s.heap.size ≤ q → A q := fun q h => by rw [← hAe]; exact Or.inr h
  have hS : va_S A s.heap s.heap [] := va_S.rf
  have hl := lv_entry ([.ref h0]) (n := 4) (Nat.le_of_ble_eq_true rfl)
  rw [lg_entry_eq]
  generalize (lg_sl ([.ref h0]) ++ List.replicate (4 - (lg_sl ([.ref h0])).length) Slot.unset).toArray = ls at hl ⊢
  have hl : lv_has ls 4 [(0, .ref h0)] := hl
  generalize hX : sM_conditionsNow g3 g4 g5 g6 g7 g8 g10 g11 g12 g13 g14 g15 g16 g17 g18 r0 r1 r2 r9 = X
  refine bw_Q (fun Q hQ => ?_)
  have hinU : ∀ w ∈ wsXM0, w ∈ wsXM_conditionsNow := fun w h => List.mem_cons_of_mem _ (List.mem_append_right _ h)
  have htM := fun w h => hts w (List.mem_cons_of_mem _ (List.mem_append_left _ h))
  have J152 : ∀ (x1 : Int32) (x2 : Int32) (H : Heap) (locs : List Loc) (ls : Array Slot), lv_has ls 4 [(0, .ref h0), (1, .int x1), (2, .int x2)] → va_P D vwC2 (wdM cI h0 a0 a1 a2 a9 g3 g4 g5 g6 g7 g8 g10 g11 g12 g13 g14 g15 g16 g17 g18 r0 r1 r2 r9) H → va_D A (wdM cI h0 a0 a1 a2 a9 g3 g4 g5 g6 g7 g8 g10 g11 g12 g13 g14 g15 g16 g17 g18 r0 r1 r2 r9) → va_S A s.heap H locs → bM_conditionsNow_152 g3 g4 g5 g6 g7 g8 g10 g11 g12 g13 g14 g15 g16 g17 g18 r0 r1 r2 r9 x1 x2 = X → W p l e (headSpec wsXM_conditionsNow rmM_conditionsNow).room s m ([.ref h0] : List Value).toArray below meth c H locs 0 0 Q (F0 m 152 ls []) := by
    intro x1 x2 H locs ls hl hP hD hS hX
    unfold bM_conditionsNow_152 at hX
    refine lv_iload_n hx hb dXM_conditionsNow_152 rfl (lv_at hl 2 rfl) ?_
    refine lv_if_eq (tgt := 163) hx hb dXM_conditionsNow_153 (by decide) (fun hc153 => ?_) (fun hc153 => ?_)
    · rw [if_pos hc153] at hX
      unfold bM_conditionsNow_163 at hX
      refine lv_iload_n hx hb dXM_conditionsNow_163 rfl (lv_at hl 1 rfl) ?_
      subst hQ
      exact W.iret (v := x1) hx hb hr (fun t ht hW => ⟨⟨x1, (g3, g4, g5, g6, g7, g8, g10, g11, g12, g13, g14, g15, g16, g17, g18, r0, r1, r2, r9), rfl, ⟨hX, rfl⟩, by rw [ht]; exact hP, va_K.moved hW.alike hK, hD⟩, hS.F ht⟩) hS.2.2 dXM_conditionsNow_164
    · rw [if_neg hc153] at hX
      unfold bM_conditionsNow_156 at hX
      refine lv_iload_n hx hb dXM_conditionsNow_156 rfl (lv_at hl 1 rfl) ?_
      refine lv_bipush (v := 32) hx hb dXM_conditionsNow_157 (by decide +kernel) ?_
      refine lv_iadd hx hb dXM_conditionsNow_159 ?_
      refine lv_goto (tgt := 164) hx hb dXM_conditionsNow_160 (by decide) ?_
      subst hQ
      exact W.iret (v := x1 + 32) hx hb hr (fun t ht hW => ⟨⟨x1 + 32, (g3, g4, g5, g6, g7, g8, g10, g11, g12, g13, g14, g15, g16, g17, g18, r0, r1, r2, r9), rfl, ⟨hX, rfl⟩, by rw [ht]; exact hP, va_K.moved hW.alike hK, hD⟩, hS.F ht⟩) hS.2.2 dXM_conditionsNow_164
  have JH122 : ∀ (f k : Nat), k < f → k ≤ 6 → ∀ (x1 : Int32) (x2 : Int32) (x3 : Int32), x3 = nI (6 - k) → ∀ (H : Heap) (locs : List Loc) (ls : Array Slot), lv_has ls 4 [(0, .ref h0), (1, .int x1), (2, .int x2), (3, .int x3)] → va_P D vwC2 (wdM cI h0 a0 a1 a2 a9 g3 g4 g5 g6 g7 g8 g10 g11 g12 g13 g14 g15 g16 g17 g18 r0 r1 r2 r9) H → va_D A (wdM cI h0 a0 a1 a2 a9 g3 g4 g5 g6 g7 g8 g10 g11 g12 g13 g14 g15 g16 g17 g18 r0 r1 r2 r9) → va_S A s.heap H locs → bM_conditionsNow_122 f g3 g4 g5 g6 g7 g8 g10 g11 g12 g13 g14 g15 g16 g17 g18 r0 r1 r2 r9 x1 x2 x3 = X → W p l e (headSpec wsXM_conditionsNow rmM_conditionsNow).room s m ([.ref h0] : List Value).toArray below meth c H locs 0 0 Q (F0 m 122 ls []) := by
    intro f
    induction f with
    | zero => intro k hkf; omega
    | succ f ih =>
      intro k hkf hkN x1 x2 x3 hi H locs ls hl hP hD hS hX
      rw [bM_conditionsNow_122_s] at hX
      refine lv_iload_n hx hb dXM_conditionsNow_122 rfl (lv_at hl 3 rfl) ?_
      refine lv_bipush (v := 6) hx hb dXM_conditionsNow_123 (by decide +kernel) ?_
      refine lv_icmp_ge (tgt := 152) hx hb dXM_conditionsNow_125 (by decide) (fun hc125 => ?_) (fun hc125 => ?_)
      · rw [if_pos hc125] at hX
        exact J152 x1 x2 _ _ ls (lv_sub hl [0, 1, 2] rfl) hP hD hS hX
      · rw [if_neg hc125] at hX
        have hk0 : k ≠ 0 := fun h => hc125 (by rw [hi, h]; decide +kernel)
        obtain ⟨k, rfl⟩ : ∃ k', k = k' + 1 := ⟨k - 1, by omega⟩
        have hin : vp_in x3 6 := by rw [hi]; exact vp_in_nI (by omega) (by decide)
        unfold bM_conditionsNow_128 at hX
        refine lv_iload_n hx hb dXM_conditionsNow_128 rfl (lv_at hl 2 rfl) ?_
        refine lv_if_ne (tgt := 140) hx hb dXM_conditionsNow_129 (by decide) (fun hc129 => ?_) (fun hc129 => ?_)
        · rw [if_neg hc129] at hX
          unfold bM_conditionsNow_140 at hX
          refine lv_iconst (v := 1) hx hb dXM_conditionsNow_140 (by decide +kernel) ?_
          refine lv_goto (tgt := 145) hx hb dXM_conditionsNow_141 (by decide) ?_
          unfold bM_conditionsNow_145 at hX
          refine lv_istore_n (lv' := [(2, .int 1), (0, .ref h0), (1, .int x1), (3, .int x3)]) hx hb dXM_conditionsNow_145 rfl hl (by decide) rfl (fun ls hl => ?_)
          refine lv_iinc (k := 3) (v := x3 + 1) (lv' := [(3, .int (x3 + 1)), (2, .int 1), (0, .ref h0), (1, .int x1)]) hx hb dXM_conditionsNow_146 hl rfl (bw_inc1 _) (by decide) rfl (fun ls hl => ?_)
          refine lv_goto (tgt := 122) hx hb dXM_conditionsNow_149 (by decide) ?_
          exact ih k (by omega) (by omega) x1 1 (x3 + 1) (bw_nx hi (by omega)) _ _ ls (lv_sub hl [2, 3, 1, 0] rfl) hP hD hS hX
        · rw [if_pos hc129] at hX
          unfold bM_conditionsNow_132 at hX
          refine lv_aload_n hx hb dXM_conditionsNow_132 rfl (lv_at hl 0 rfl) ?_
          refine lv_iload_n hx hb dXM_conditionsNow_133 rfl (lv_at hl 3 rfl) ?_
          refine bw_Vi (wr := []) (As := [.int x3]) (rest := []) ⟨hx, hb, hml, hown, hts⟩ (ctM_faulty l D cI h0 a0 a1 a2 a9 _ g3 g4 g5 g6 g7 g8 g10 g11 g12 g13 g14 g15 g16 g17 g18 r0 r1 r2 r9 x3) (cwV 1 hts gXM_conditionsNow_XM_faulty rfl rfl rfl (by decide +kernel) ⟨Nat.le_of_ble_eq_true rfl, Nat.le_of_ble_eq_true rfl⟩) hK hP hD hS hA (fun _ _ _ _ h => h) (fun _ _ _ => trivial) 0 rfl rfl rfl hl.1 rfl (Nat.le_of_ble_eq_true rfl) dXM_conditionsNow_134 ⟨Nat.le_of_ble_eq_true rfl, Nat.le_of_ble_eq_true rfl⟩ (fun q1 u H locs hu hP hD hS => ?_)
          obtain ⟨hr1, rfl⟩ := hu
          subst hr1
          have hP : va_P D vwC2 (wdM cI h0 a0 a1 a2 a9 g3 g4 g5 g6 g7 g8 g10 g11 g12 g13 g14 g15 g16 g17 g18 r0 r1 r2 r9) H := hP
          have hD : va_D A (wdM cI h0 a0 a1 a2 a9 g3 g4 g5 g6 g7 g8 g10 g11 g12 g13 g14 g15 g16 g17 g18 r0 r1 r2 r9) := hD
          refine lv_if_eq (tgt := 144) hx hb dXM_conditionsNow_137 (by decide) (fun hc137 => ?_) (fun hc137 => ?_)
          · rw [if_pos hc137] at hX
            unfold bM_conditionsNow_144 at hX
            refine lv_iconst (v := 0) hx hb dXM_conditionsNow_144 (by decide +kernel) ?_
            unfold bM_conditionsNow_145 at hX
            refine lv_istore_n (lv' := [(2, .int 0), (0, .ref h0), (1, .int x1), (3, .int x3)]) hx hb dXM_conditionsNow_145 rfl hl (by decide) rfl (fun ls hl => ?_)
            refine lv_iinc (k := 3) (v := x3 + 1) (lv' := [(3, .int (x3 + 1)), (2, .int 0), (0, .ref h0), (1, .int x1)]) hx hb dXM_conditionsNow_146 hl rfl (bw_inc1 _) (by decide) rfl (fun ls hl => ?_)
            refine lv_goto (tgt := 122) hx hb dXM_conditionsNow_149 (by decide) ?_
            exact ih k (by omega) (by omega) x1 0 (x3 + 1) (bw_nx hi (by omega)) _ _ ls (lv_sub hl [2, 3, 1, 0] rfl) hP hD hS hX
          · rw [if_neg hc137] at hX
            unfold bM_conditionsNow_140 at hX
            refine lv_iconst (v := 1) hx hb dXM_conditionsNow_140 (by decide +kernel) ?_
            refine lv_goto (tgt := 145) hx hb dXM_conditionsNow_141 (by decide) ?_
            unfold bM_conditionsNow_145 at hX
            refine lv_istore_n (lv' := [(2, .int 1), (0, .ref h0), (1, .int x1), (3, .int x3)]) hx hb dXM_conditionsNow_145 rfl hl (by decide) rfl (fun ls hl => ?_)
            refine lv_iinc (k := 3) (v := x3 + 1) (lv' := [(3, .int (x3 + 1)), (2, .int 1), (0, .ref h0), (1, .int x1)]) hx hb dXM_conditionsNow_146 hl rfl (bw_inc1 _) (by decide) rfl (fun ls hl => ?_)
            refine lv_goto (tgt := 122) hx hb dXM_conditionsNow_149 (by decide) ?_
            exact ih k (by omega) (by omega) x1 1 (x3 + 1) (bw_nx hi (by omega)) _ _ ls (lv_sub hl [2, 3, 1, 0] rfl) hP hD hS hX
  have J117 : ∀ (y0 : Int32) (H : Heap) (locs : List Loc) (ls : Array Slot), lv_has ls 4 [(0, .ref h0)] → va_P D vwC2 (wdM cI h0 a0 a1 a2 a9 g3 g4 g5 g6 g7 g8 g10 g11 g12 g13 g14 g15 g16 g17 g18 r0 r1 r2 r9) H → va_D A (wdM cI h0 a0 a1 a2 a9 g3 g4 g5 g6 g7 g8 g10 g11 g12 g13 g14 g15 g16 g17 g18 r0 r1 r2 r9) → va_S A s.heap H locs → bM_conditionsNow_117 g3 g4 g5 g6 g7 g8 g10 g11 g12 g13 g14 g15 g16 g17 g18 r0 r1 r2 r9 y0 = X → W p l e (headSpec wsXM_conditionsNow rmM_conditionsNow).room s m ([.ref h0] : List Value).toArray below meth c H locs 0 0 Q (F0 m 117 ls [.int y0]) := by
    intro y0 H locs ls hl hP hD hS hX
    unfold bM_conditionsNow_117 at hX
    refine lv_istore_n (lv' := [(1, .int y0), (0, .ref h0)]) hx hb dXM_conditionsNow_117 rfl hl (by decide) rfl (fun ls hl => ?_)
    refine lv_iconst (v := 0) hx hb dXM_conditionsNow_118 (by decide +kernel) ?_
    refine lv_istore_n (lv' := [(2, .int 0), (1, .int y0), (0, .ref h0)]) hx hb dXM_conditionsNow_119 rfl hl (by decide) rfl (fun ls hl => ?_)
    refine lv_iconst (v := 0) hx hb dXM_conditionsNow_120 (by decide +kernel) ?_
    refine lv_istore_n (lv' := [(3, .int 0), (2, .int 0), (1, .int y0), (0, .ref h0)]) hx hb dXM_conditionsNow_121 rfl hl (by decide) rfl (fun ls hl => ?_)
    exact JH122 7 6 (by omega) (by omega) y0 0 0 (by decide +kernel) _ _ ls (lv_sub hl [3, 2, 1, 0] rfl) hP hD hS hX
  have J93 : ∀ (y0 : Int32) (H : Heap) (locs : List Loc) (ls : Array Slot), lv_has ls 4 [(0, .ref h0)] → va_P D vwC2 (wdM cI h0 a0 a1 a2 a9 g3 g4 g5 g6 g7 g8 g10 g11 g12 g13 g14 g15 g16 g17 g18 r0 r1 r2 r9) H → va_D A (wdM cI h0 a0 a1 a2 a9 g3 g4 g5 g6 g7 g8 g10 g11 g12 g13 g14 g15 g16 g17 g18 r0 r1 r2 r9) → va_S A s.heap H locs → bM_conditionsNow_93 g3 g4 g5 g6 g7 g8 g10 g11 g12 g13 g14 g15 g16 g17 g18 r0 r1 r2 r9 y0 = X → W p l e (headSpec wsXM_conditionsNow rmM_conditionsNow).room s m ([.ref h0] : List Value).toArray below meth c H locs 0 0 Q (F0 m 93 ls [.int y0]) := by
    intro y0 H locs ls hl hP hD hS hX
    unfold bM_conditionsNow_93 at hX
    refine lv_istore_n (lv' := [(1, .int y0), (0, .ref h0)]) hx hb dXM_conditionsNow_93 rfl hl (by decide) rfl (fun ls hl => ?_)
    refine lv_aload_n hx hb dXM_conditionsNow_94 rfl (lv_at hl 1 rfl) ?_
    refine va_get (D := D) (ci := 1) (v := .int g8) (C := RXM) (T := TXM) (N := 19) hx hb hts hinU hown hK hP 0 rfl rfl 8 (by decide) (htM _ wM_13) (fun _ h9 => h9) rfl dXM_conditionsNow_95 ?_
    refine lv_aload_n hx hb dXM_conditionsNow_98 rfl (lv_at hl 1 rfl) ?_
    refine va_get (D := D) (ci := 1) (v := .int g12) (C := RXM) (T := TXM) (N := 19) hx hb hts hinU hown hK hP 0 rfl rfl 12 (by decide) (htM _ wM_17) (fun _ h9 => h9) rfl dXM_conditionsNow_99 ?_
    refine lv_isub hx hb dXM_conditionsNow_102 ?_
    refine lv_sipush (v := 600) hx hb dXM_conditionsNow_103 (by decide +kernel) ?_
    refine lv_icmp_lt (tgt := 116) hx hb dXM_conditionsNow_106 (by decide) (fun hc106 => ?_) (fun hc106 => ?_)
    · rw [if_pos hc106] at hX
      unfold bM_conditionsNow_116 at hX
      refine lv_iload_n hx hb dXM_conditionsNow_116 rfl (lv_at hl 0 rfl) ?_
      exact J117 y0 _ _ ls (lv_sub hl [1] rfl) hP hD hS hX
    · rw [if_neg hc106] at hX
      unfold bM_conditionsNow_109 at hX
      refine lv_iload_n hx hb dXM_conditionsNow_109 rfl (lv_at hl 0 rfl) ?_
      refine lv_bipush (v := 16) hx hb dXM_conditionsNow_110 (by decide +kernel) ?_
      refine lv_iadd hx hb dXM_conditionsNow_112 ?_
      refine lv_goto (tgt := 117) hx hb dXM_conditionsNow_113 (by decide) ?_
      exact J117 (y0 + 16) _ _ ls (lv_sub hl [1] rfl) hP hD hS hX
  have J92 : ∀ (x1 : Int32) (H : Heap) (locs : List Loc) (ls : Array Slot), lv_has ls 4 [(0, .ref h0), (1, .int x1)] → va_P D vwC2 (wdM cI h0 a0 a1 a2 a9 g3 g4 g5 g6 g7 g8 g10 g11 g12 g13 g14 g15 g16 g17 g18 r0 r1 r2 r9) H → va_D A (wdM cI h0 a0 a1 a2 a9 g3 g4 g5 g6 g7 g8 g10 g11 g12 g13 g14 g15 g16 g17 g18 r0 r1 r2 r9) → va_S A s.heap H locs → bM_conditionsNow_92 g3 g4 g5 g6 g7 g8 g10 g11 g12 g13 g14 g15 g16 g17 g18 r0 r1 r2 r9 x1 = X → W p l e (headSpec wsXM_conditionsNow rmM_conditionsNow).room s m ([.ref h0] : List Value).toArray below meth c H locs 0 0 Q (F0 m 92 ls []) := by
    intro x1 H locs ls hl hP hD hS hX
    unfold bM_conditionsNow_92 at hX
    refine lv_iload_n hx hb dXM_conditionsNow_92 rfl (lv_at hl 1 rfl) ?_
    exact J93 x1 _ _ ls (lv_sub hl [0] rfl) hP hD hS hX
  have J66 : ∀ (y0 : Int32) (H : Heap) (locs : List Loc) (ls : Array Slot), lv_has ls 4 [(0, .ref h0)] → va_P D vwC2 (wdM cI h0 a0 a1 a2 a9 g3 g4 g5 g6 g7 g8 g10 g11 g12 g13 g14 g15 g16 g17 g18 r0 r1 r2 r9) H → va_D A (wdM cI h0 a0 a1 a2 a9 g3 g4 g5 g6 g7 g8 g10 g11 g12 g13 g14 g15 g16 g17 g18 r0 r1 r2 r9) → va_S A s.heap H locs → bM_conditionsNow_66 g3 g4 g5 g6 g7 g8 g10 g11 g12 g13 g14 g15 g16 g17 g18 r0 r1 r2 r9 y0 = X → W p l e (headSpec wsXM_conditionsNow rmM_conditionsNow).room s m ([.ref h0] : List Value).toArray below meth c H locs 0 0 Q (F0 m 66 ls [.int y0]) := by
    intro y0 H locs ls hl hP hD hS hX
    unfold bM_conditionsNow_66 at hX
    refine lv_istore_n (lv' := [(1, .int y0), (0, .ref h0)]) hx hb dXM_conditionsNow_66 rfl hl (by decide) rfl (fun ls hl => ?_)
    refine lv_aload_n hx hb dXM_conditionsNow_67 rfl (lv_at hl 1 rfl) ?_
    refine va_get (D := D) (ci := 1) (v := .int g3) (C := RXM) (T := TXM) (N := 19) hx hb hts hinU hown hK hP 0 rfl rfl 3 (by decide) (htM _ wM_8) (fun _ h9 => h9) rfl dXM_conditionsNow_68 ?_
    refine lv_iconst (v := 3) hx hb dXM_conditionsNow_71 (by decide +kernel) ?_
    refine lv_icmp_ne (tgt := 92) hx hb dXM_conditionsNow_72 (by decide) (fun hc72 => ?_) (fun hc72 => ?_)
    · rw [if_neg hc72] at hX
      exact J92 y0 _ _ ls (lv_sub hl [1, 0] rfl) hP hD hS hX
    · rw [if_pos hc72] at hX
      unfold bM_conditionsNow_75 at hX
      refine lv_aload_n hx hb dXM_conditionsNow_75 rfl (lv_at hl 1 rfl) ?_
      refine va_get (D := D) (ci := 1) (v := .ref a2) (C := RXM) (T := TXM) (N := 19) hx hb hts hinU hown hK hP 0 rfl rfl 2 (by decide) (htM _ wM_7) (fun _ h9 => h9) rfl dXM_conditionsNow_76 ?_
      refine lv_iconst (v := 5) hx hb dXM_conditionsNow_79 (by decide +kernel) ?_
      refine bw_ld hx hb hK hP 3 0 rfl rfl 5 (by decide +kernel) (bw_in (by decide +kernel)) dXM_conditionsNow_80 ?_
      refine lv_iconst (v := 1) hx hb dXM_conditionsNow_81 (by decide +kernel) ?_
      refine lv_icmp_ne (tgt := 92) hx hb dXM_conditionsNow_82 (by decide) (fun hc82 => ?_) (fun hc82 => ?_)
      · rw [if_neg hc82] at hX
        exact J92 y0 _ _ ls (lv_sub hl [1, 0] rfl) hP hD hS hX
      · rw [if_pos hc82] at hX
        unfold bM_conditionsNow_85 at hX
        refine lv_iload_n hx hb dXM_conditionsNow_85 rfl (lv_at hl 0 rfl) ?_
        refine lv_bipush (v := 8) hx hb dXM_conditionsNow_86 (by decide +kernel) ?_
        refine lv_iadd hx hb dXM_conditionsNow_88 ?_
        refine lv_goto (tgt := 93) hx hb dXM_conditionsNow_89 (by decide) ?_
        exact J93 (y0 + 8) _ _ ls (lv_sub hl [1] rfl) hP hD hS hX
  have J65 : ∀ (x1 : Int32) (H : Heap) (locs : List Loc) (ls : Array Slot), lv_has ls 4 [(0, .ref h0), (1, .int x1)] → va_P D vwC2 (wdM cI h0 a0 a1 a2 a9 g3 g4 g5 g6 g7 g8 g10 g11 g12 g13 g14 g15 g16 g17 g18 r0 r1 r2 r9) H → va_D A (wdM cI h0 a0 a1 a2 a9 g3 g4 g5 g6 g7 g8 g10 g11 g12 g13 g14 g15 g16 g17 g18 r0 r1 r2 r9) → va_S A s.heap H locs → bM_conditionsNow_65 g3 g4 g5 g6 g7 g8 g10 g11 g12 g13 g14 g15 g16 g17 g18 r0 r1 r2 r9 x1 = X → W p l e (headSpec wsXM_conditionsNow rmM_conditionsNow).room s m ([.ref h0] : List Value).toArray below meth c H locs 0 0 Q (F0 m 65 ls []) := by
    intro x1 H locs ls hl hP hD hS hX
    unfold bM_conditionsNow_65 at hX
    refine lv_iload_n hx hb dXM_conditionsNow_65 rfl (lv_at hl 1 rfl) ?_
    exact J66 x1 _ _ ls (lv_sub hl [0] rfl) hP hD hS hX
  have J41 : ∀ (y0 : Int32) (H : Heap) (locs : List Loc) (ls : Array Slot), lv_has ls 4 [(0, .ref h0)] → va_P D vwC2 (wdM cI h0 a0 a1 a2 a9 g3 g4 g5 g6 g7 g8 g10 g11 g12 g13 g14 g15 g16 g17 g18 r0 r1 r2 r9) H → va_D A (wdM cI h0 a0 a1 a2 a9 g3 g4 g5 g6 g7 g8 g10 g11 g12 g13 g14 g15 g16 g17 g18 r0 r1 r2 r9) → va_S A s.heap H locs → bM_conditionsNow_41 g3 g4 g5 g6 g7 g8 g10 g11 g12 g13 g14 g15 g16 g17 g18 r0 r1 r2 r9 y0 = X → W p l e (headSpec wsXM_conditionsNow rmM_conditionsNow).room s m ([.ref h0] : List Value).toArray below meth c H locs 0 0 Q (F0 m 41 ls [.int y0]) := by
    intro y0 H locs ls hl hP hD hS hX
    unfold bM_conditionsNow_41 at hX
    refine lv_istore_n (lv' := [(1, .int y0), (0, .ref h0)]) hx hb dXM_conditionsNow_41 rfl hl (by decide) rfl (fun ls hl => ?_)
    refine lv_aload_n hx hb dXM_conditionsNow_42 rfl (lv_at hl 1 rfl) ?_
    refine bw_Vi (wr := []) (As := []) (rest := []) ⟨hx, hb, hml, hown, hts⟩ (ctM_onPatient l D cI h0 a0 a1 a2 a9 _ g3 g4 g5 g6 g7 g8 g10 g11 g12 g13 g14 g15 g16 g17 g18 r0 r1 r2 r9) (cwV 0 hts gXM_conditionsNow_XM_onPatient rfl rfl rfl (by decide +kernel) ⟨Nat.le_of_ble_eq_true rfl, Nat.le_of_ble_eq_true rfl⟩) hK hP hD hS hA (fun _ _ _ _ h => h) (fun _ _ _ => trivial) 0 rfl rfl rfl hl.1 rfl (Nat.le_of_ble_eq_true rfl) dXM_conditionsNow_43 ⟨Nat.le_of_ble_eq_true rfl, Nat.le_of_ble_eq_true rfl⟩ (fun q2 u H locs hu hP hD hS => ?_)
    obtain ⟨hr1, rfl⟩ := hu
    subst hr1
    have hP : va_P D vwC2 (wdM cI h0 a0 a1 a2 a9 g3 g4 g5 g6 g7 g8 g10 g11 g12 g13 g14 g15 g16 g17 g18 r0 r1 r2 r9) H := hP
    have hD : va_D A (wdM cI h0 a0 a1 a2 a9 g3 g4 g5 g6 g7 g8 g10 g11 g12 g13 g14 g15 g16 g17 g18 r0 r1 r2 r9) := hD
    refine lv_if_eq (tgt := 65) hx hb dXM_conditionsNow_46 (by decide) (fun hc46 => ?_) (fun hc46 => ?_)
    · rw [if_pos hc46] at hX
      exact J65 y0 _ _ ls (lv_sub hl [1, 0] rfl) hP hD hS hX
    · rw [if_neg hc46] at hX
      unfold bM_conditionsNow_49 at hX
      refine lv_aload_n hx hb dXM_conditionsNow_49 rfl (lv_at hl 1 rfl) ?_
      refine va_get (D := D) (ci := 1) (v := .ref a2) (C := RXM) (T := TXM) (N := 19) hx hb hts hinU hown hK hP 0 rfl rfl 2 (by decide) (htM _ wM_7) (fun _ h9 => h9) rfl dXM_conditionsNow_50 ?_
      refine lv_iconst (v := 4) hx hb dXM_conditionsNow_53 (by decide +kernel) ?_
      refine bw_ld hx hb hK hP 3 0 rfl rfl 4 (by decide +kernel) (bw_in (by decide +kernel)) dXM_conditionsNow_54 ?_
      refine lv_iconst (v := 1) hx hb dXM_conditionsNow_55 (by decide +kernel) ?_
      refine lv_icmp_ne (tgt := 65) hx hb dXM_conditionsNow_56 (by decide) (fun hc56 => ?_) (fun hc56 => ?_)
      · rw [if_neg hc56] at hX
        exact J65 y0 _ _ ls (lv_sub hl [1, 0] rfl) hP hD hS hX
      · rw [if_pos hc56] at hX
        unfold bM_conditionsNow_59 at hX
        refine lv_iload_n hx hb dXM_conditionsNow_59 rfl (lv_at hl 0 rfl) ?_
        refine lv_iconst (v := 4) hx hb dXM_conditionsNow_60 (by decide +kernel) ?_
        refine lv_iadd hx hb dXM_conditionsNow_61 ?_
        refine lv_goto (tgt := 66) hx hb dXM_conditionsNow_62 (by decide) ?_
        exact J66 (y0 + 4) _ _ ls (lv_sub hl [1] rfl) hP hD hS hX
  have J19 : ∀ (y0 : Int32) (H : Heap) (locs : List Loc) (ls : Array Slot), lv_has ls 4 [(0, .ref h0)] → va_P D vwC2 (wdM cI h0 a0 a1 a2 a9 g3 g4 g5 g6 g7 g8 g10 g11 g12 g13 g14 g15 g16 g17 g18 r0 r1 r2 r9) H → va_D A (wdM cI h0 a0 a1 a2 a9 g3 g4 g5 g6 g7 g8 g10 g11 g12 g13 g14 g15 g16 g17 g18 r0 r1 r2 r9) → va_S A s.heap H locs → bM_conditionsNow_19 g3 g4 g5 g6 g7 g8 g10 g11 g12 g13 g14 g15 g16 g17 g18 r0 r1 r2 r9 y0 = X → W p l e (headSpec wsXM_conditionsNow rmM_conditionsNow).room s m ([.ref h0] : List Value).toArray below meth c H locs 0 0 Q (F0 m 19 ls [.int y0]) := by
    intro y0 H locs ls hl hP hD hS hX
    unfold bM_conditionsNow_19 at hX
    refine lv_istore_n (lv' := [(1, .int y0), (0, .ref h0)]) hx hb dXM_conditionsNow_19 rfl hl (by decide) rfl (fun ls hl => ?_)
    refine lv_aload_n hx hb dXM_conditionsNow_20 rfl (lv_at hl 1 rfl) ?_
    refine va_get (D := D) (ci := 1) (v := .int g8) (C := RXM) (T := TXM) (N := 19) hx hb hts hinU hown hK hP 0 rfl rfl 8 (by decide) (htM _ wM_13) (fun _ h9 => h9) rfl dXM_conditionsNow_21 ?_
    refine lv_aload_n hx hb dXM_conditionsNow_24 rfl (lv_at hl 1 rfl) ?_
    refine va_get (D := D) (ci := 1) (v := .int g11) (C := RXM) (T := TXM) (N := 19) hx hb hts hinU hown hK hP 0 rfl rfl 11 (by decide) (htM _ wM_16) (fun _ h9 => h9) rfl dXM_conditionsNow_25 ?_
    refine lv_isub hx hb dXM_conditionsNow_28 ?_
    refine lv_bipush (v := 30) hx hb dXM_conditionsNow_29 (by decide +kernel) ?_
    refine lv_icmp_lt (tgt := 40) hx hb dXM_conditionsNow_31 (by decide) (fun hc31 => ?_) (fun hc31 => ?_)
    · rw [if_pos hc31] at hX
      unfold bM_conditionsNow_40 at hX
      refine lv_iload_n hx hb dXM_conditionsNow_40 rfl (lv_at hl 0 rfl) ?_
      exact J41 y0 _ _ ls (lv_sub hl [1] rfl) hP hD hS hX
    · rw [if_neg hc31] at hX
      unfold bM_conditionsNow_34 at hX
      refine lv_iload_n hx hb dXM_conditionsNow_34 rfl (lv_at hl 0 rfl) ?_
      refine lv_iconst (v := 2) hx hb dXM_conditionsNow_35 (by decide +kernel) ?_
      refine lv_iadd hx hb dXM_conditionsNow_36 ?_
      refine lv_goto (tgt := 41) hx hb dXM_conditionsNow_37 (by decide) ?_
      exact J41 (y0 + 2) _ _ ls (lv_sub hl [1] rfl) hP hD hS hX
  unfold sM_conditionsNow at hX
  unfold bM_conditionsNow_0 at hX
  refine lv_aload_n hx hb dXM_conditionsNow_0 rfl (lv_at hl 0 rfl) ?_
  refine va_get (D := D) (ci := 1) (v := .int g8) (C := RXM) (T := TXM) (N := 19) hx hb hts hinU hown hK hP 0 rfl rfl 8 (by decide) (htM _ wM_13) (fun _ h9 => h9) rfl dXM_conditionsNow_1 ?_
  refine lv_aload_n hx hb dXM_conditionsNow_4 rfl (lv_at hl 0 rfl) ?_
  refine va_get (D := D) (ci := 1) (v := .int g10) (C := RXM) (T := TXM) (N := 19) hx hb hts hinU hown hK hP 0 rfl rfl 10 (by decide) (htM _ wM_15) (fun _ h9 => h9) rfl dXM_conditionsNow_5 ?_
  refine lv_isub hx hb dXM_conditionsNow_8 ?_
  refine lv_bipush (v := 30) hx hb dXM_conditionsNow_9 (by decide +kernel) ?_
  refine lv_icmp_lt (tgt := 18) hx hb dXM_conditionsNow_11 (by decide) (fun hc11 => ?_) (fun hc11 => ?_)
  · rw [if_pos hc11] at hX
    unfold bM_conditionsNow_18 at hX
    refine lv_iconst (v := 0) hx hb dXM_conditionsNow_18 (by decide +kernel) ?_
    exact J19 0 _ _ ls (lv_sub hl [0] rfl) hP hD hS hX
  · rw [if_neg hc11] at hX
    unfold bM_conditionsNow_14 at hX
    refine lv_iconst (v := 1) hx hb dXM_conditionsNow_14 (by decide +kernel) ?_
    refine lv_goto (tgt := 19) hx hb dXM_conditionsNow_15 (by decide) ?_
    exact J19 1 _ _ ls (lv_sub hl [0] rfl) hP hD hS hX
abbrev rmM_commands : Room := { frames := 0, cells := 0, slots := 0, locals := 0 }
set_option maxHeartbeats 4000000 in
set_option maxRecDepth 100000 in
theorem ctM_commands (l : Launch) (D : va_G) (cI : ClassId) (h0 a0 a1 a2 a9 sz : Nat) (g3 g4 g5 g6 g7 g8 g10 g11 g12 g13 g14 g15 g16 g17 g18 : Int32) (r0 r1 r2 r9 : Nat → Int32)  (hV : hVof r0) : Met l yXM_commands wsXM_commands rmM_commands (va_Pc [.ref h0] (bw_pr D vwC2 [(cI, .int)] (wdM cI h0 a0 a1 a2 a9 g3 g4 g5 g6 g7 g8 g10 g11 g12 g13 g14 g15 g16 g17 g18 r0 r1 r2 r9) sz (fun _ => True))) (va_Qi (fun r u => (r, u) = sM_commands g3 g4 g5 g6 g7 g8 g10 g11 g12 g13 g14 g15 g16 g17 g18 r0 r1 r2 r9) (bw_at D vwC2 [(cI, .int)] (wfM cI h0 a0 a1 a2 a9) (va_A (wdM cI h0 a0 a1 a2 a9 g3 g4 g5 g6 g7 g8 g10 g11 g12 g13 g14 g15 g16 g17 g18 r0 r1 r2 r9) sz)) (va_A (wdM cI h0 a0 a1 a2 a9 g3 g4 g5 g6 g7 g8 g10 g11 g12 g13 g14 g15 g16 g17 g18 r0 r1 r2 r9) sz)) 0 0 (va_A (wdM cI h0 a0 a1 a2 a9 g3 g4 g5 g6 g7 g8 g10 g11 g12 g13 g14 g15 g16 g17 g18 r0 r1 r2 r9) sz) := by
  refine Met.ofW (cc := cXM_commands) (maxL := 5) (ret := (some .int)) (by decide) rfl ?_
  intro p e s m args below meth c s₁ B hml hv
  obtain ⟨rfl, hsz, hP, hK, hD0, hT⟩ := hv
  have hx := B.exec
  have hb := B.bytes
  have hr := B.returns
  have hts := atoms_spec (ws := wsXM_commands) B.pre
  have hown : s.vm.findClass RXM = some m.cls := findClass_of_methodNamed B.named
  have hlocks := B.notSynchronized
  subst hsz
  have hD := hD0.self (sz := s.heap.size)
  generalize hAe : va_A (wdM cI h0 a0 a1 a2 a9 g3 g4 g5 g6 g7 g8 g10 g11 g12 g13 g14 g15 g16 g17 g18 r0 r1 r2 r9) s.heap.size = A at hD hT ⊢
  have hA : ∀ q : Nat, s.heap.size ≤ q → A q := fun q h => by rw [← hAe]; exact Or.inr h
  have hS : va_S A s.heap s.heap [] := va_S.rf
  have hl := lv_entry ([.ref h0]) (n := 5) (Nat.le_of_ble_eq_true rfl)
  rw [lg_entry_eq]
  generalize (lg_sl ([.ref h0]) ++ List.replicate (5 - (lg_sl ([.ref h0])).length) Slot.unset).toArray = ls at hl ⊢
  have hl : lv_has ls 5 [(0, .ref h0)] := hl
  generalize hX : sM_commands g3 g4 g5 g6 g7 g8 g10 g11 g12 g13 g14 g15 g16 g17 g18 r0 r1 r2 r9 = X
  refine bw_Q (fun Q hQ => ?_)
  have hinU : ∀ w ∈ wsXM0, w ∈ wsXM_commands := fun w h => List.mem_cons_of_mem _ (List.mem_append_right _ h)
  have htM := fun w h => hts w (List.mem_cons_of_mem _ (List.mem_append_left _ h))
  have J121 : ∀ (g3 g4 g5 g6 g7 g8 g10 g11 g12 g13 g14 g15 g16 g17 g18 : Int32) (r1 r2 r9 : Nat → Int32) (x2 : Int32) (H : Heap) (locs : List Loc) (ls : Array Slot), lv_has ls 5 [(0, .ref h0), (2, .int x2)] → va_P D vwC2 (wdM cI h0 a0 a1 a2 a9 g3 g4 g5 g6 g7 g8 g10 g11 g12 g13 g14 g15 g16 g17 g18 r0 r1 r2 r9) H → va_D A (wdM cI h0 a0 a1 a2 a9 g3 g4 g5 g6 g7 g8 g10 g11 g12 g13 g14 g15 g16 g17 g18 r0 r1 r2 r9) → va_S A s.heap H locs → bM_commands_121 g3 g4 g5 g6 g7 g8 g10 g11 g12 g13 g14 g15 g16 g17 g18 r0 r1 r2 r9 x2 = X → W p l e (headSpec wsXM_commands rmM_commands).room s m ([.ref h0] : List Value).toArray below meth c H locs 0 0 Q (F0 m 121 ls []) := by
    intro g3 g4 g5 g6 g7 g8 g10 g11 g12 g13 g14 g15 g16 g17 g18 r1 r2 r9 x2 H locs ls hl hP hD hS hX
    unfold bM_commands_121 at hX
    refine lv_iload_n hx hb dXM_commands_121 rfl (lv_at hl 1 rfl) ?_
    subst hQ
    exact W.iret (v := x2) hx hb hr (fun t ht hW => ⟨⟨x2, (g3, g4, g5, g6, g7, g8, g10, g11, g12, g13, g14, g15, g16, g17, g18, r0, r1, r2, r9), rfl, hX, by rw [ht]; exact hP, va_K.moved hW.alike hK, hD⟩, hS.F ht⟩) hS.2.2 dXM_commands_122
  have J100 : ∀ (g3 g4 g5 g6 g7 g8 g10 g11 g12 g13 g14 g15 g16 g17 g18 : Int32) (r1 r2 r9 : Nat → Int32) (y0 : Int32) (H : Heap) (locs : List Loc) (ls : Array Slot), lv_has ls 5 [(0, .ref h0)] → va_P D vwC2 (wdM cI h0 a0 a1 a2 a9 g3 g4 g5 g6 g7 g8 g10 g11 g12 g13 g14 g15 g16 g17 g18 r0 r1 r2 r9) H → va_D A (wdM cI h0 a0 a1 a2 a9 g3 g4 g5 g6 g7 g8 g10 g11 g12 g13 g14 g15 g16 g17 g18 r0 r1 r2 r9) → va_S A s.heap H locs → bM_commands_100 g3 g4 g5 g6 g7 g8 g10 g11 g12 g13 g14 g15 g16 g17 g18 r0 r1 r2 r9 y0 = X → W p l e (headSpec wsXM_commands rmM_commands).room s m ([.ref h0] : List Value).toArray below meth c H locs 0 0 Q (F0 m 100 ls [.int y0]) := by
    intro g3 g4 g5 g6 g7 g8 g10 g11 g12 g13 g14 g15 g16 g17 g18 r1 r2 r9 y0 H locs ls hl hP hD hS hX
    unfold bM_commands_100 at hX
    refine lv_istore_n (lv' := [(2, .int y0), (0, .ref h0)]) hx hb dXM_commands_100 rfl hl (by decide) rfl (fun ls hl => ?_)
    refine lv_aload_n hx hb dXM_commands_101 rfl (lv_at hl 1 rfl) ?_
    refine va_get (D := D) (ci := 1) (v := .int g3) (C := RXM) (T := TXM) (N := 19) hx hb hts hinU hown hK hP 0 rfl rfl 3 (by decide) (htM _ wM_8) (fun _ h9 => h9) rfl dXM_commands_102 ?_
    refine lv_iconst (v := 3) hx hb dXM_commands_105 (by decide +kernel) ?_
    refine lv_icmp_ne (tgt := 121) hx hb dXM_commands_106 (by decide) (fun hc106 => ?_) (fun hc106 => ?_)
    · rw [if_neg hc106] at hX
      exact J121 g3 g4 g5 g6 g7 g8 g10 g11 g12 g13 g14 g15 g16 g17 g18 r1 r2 r9 y0 _ _ ls (lv_sub hl [1, 0] rfl) hP hD hS hX
    · rw [if_pos hc106] at hX
      unfold bM_commands_109 at hX
      refine lv_iload_n hx hb dXM_commands_109 rfl (lv_at hl 0 rfl) ?_
      refine lv_iconst (v := 1) hx hb dXM_commands_110 (by decide +kernel) ?_
      refine lv_iand hx hb dXM_commands_111 ?_
      refine lv_if_eq (tgt := 121) hx hb dXM_commands_112 (by decide) (fun hc112 => ?_) (fun hc112 => ?_)
      · rw [if_pos hc112] at hX
        exact J121 g3 g4 g5 g6 g7 g8 g10 g11 g12 g13 g14 g15 g16 g17 g18 r1 r2 r9 y0 _ _ ls (lv_sub hl [1, 0] rfl) hP hD hS hX
      · rw [if_neg hc112] at hX
        unfold bM_commands_115 at hX
        refine lv_iload_n hx hb dXM_commands_115 rfl (lv_at hl 0 rfl) ?_
        refine lv_iconst (v := 4) hx hb dXM_commands_116 (by decide +kernel) ?_
        refine lv_iand hx hb dXM_commands_117 ?_
        refine lv_if_eq (tgt := 123) hx hb dXM_commands_118 (by decide) (fun hc118 => ?_) (fun hc118 => ?_)
        · rw [if_pos hc118] at hX
          unfold bM_commands_123 at hX
          refine lv_aload_n hx hb dXM_commands_123 rfl (lv_at hl 1 rfl) ?_
          refine lv_dup hx hb dXM_commands_124 rfl ?_
          refine va_get (D := D) (ci := 1) (v := .int g14) (C := RXM) (T := TXM) (N := 19) hx hb hts hinU hown hK hP 0 rfl rfl 14 (by decide) (htM _ wM_19) (fun _ h9 => h9) rfl dXM_commands_125 ?_
          refine lv_iconst (v := 1) hx hb dXM_commands_128 (by decide +kernel) ?_
          refine lv_iadd hx hb dXM_commands_129 ?_
          refine va_put (D := D) (ci := 1) (v := .int (g14 + 1)) (ty := .int) (C := RXM) (T := TXM) (N := 19) hx hb hts hinU tyXM tyXM_ok nmXM hown hK hP hD hS 0 rfl rfl 14 (by decide) (htM _ wM_19) (fun _ h9 => h9) rfl (by decide +kernel) rfl rfl (Nat.le_of_ble_eq_true rfl) dXM_commands_130 (fun H locs hP hD hS => ?_)
          have hP : va_P D vwC2 (wdM cI h0 a0 a1 a2 a9 g3 g4 g5 g6 g7 g8 g10 g11 g12 g13 (g14 + 1) g15 g16 g17 g18 r0 r1 r2 r9) H := hP
          have hD : va_D A (wdM cI h0 a0 a1 a2 a9 g3 g4 g5 g6 g7 g8 g10 g11 g12 g13 (g14 + 1) g15 g16 g17 g18 r0 r1 r2 r9) := hD
          refine lv_aload_n hx hb dXM_commands_133 rfl (lv_at hl 1 rfl) ?_
          refine va_get (D := D) (ci := 1) (v := .ref a0) (C := RXM) (T := TXM) (N := 19) hx hb hts hinU hown hK hP 0 rfl rfl 0 (by decide) (htM _ wM_5) (fun _ h9 => h9) rfl dXM_commands_134 ?_
          refine lv_iconst (v := 1) hx hb dXM_commands_137 (by decide +kernel) ?_
          refine bw_ld hx hb hK hP 1 0 rfl rfl 1 (by decide +kernel) (bw_in (by decide +kernel)) dXM_commands_138 ?_
          refine lv_i2l (v := (r0 1).toInt64) hx hb dXM_commands_139 rfl ?_
          refine lv_ldc2 (v := 1000) hx hb hown (htM _ wM_67) dXM_commands_140 ?_
          refine lv_lmul hx hb dXM_commands_143 ?_
          refine lv_aload_n hx hb dXM_commands_144 rfl (lv_at hl 1 rfl) ?_
          refine va_get (D := D) (ci := 1) (v := .int (g14 + 1)) (C := RXM) (T := TXM) (N := 19) hx hb hts hinU hown hK hP 0 rfl rfl 14 (by decide) (htM _ wM_19) (fun _ h9 => h9) rfl dXM_commands_145 ?_
          refine lv_i2l (v := (g14 + 1).toInt64) hx hb dXM_commands_148 rfl ?_
          refine lv_lmul hx hb dXM_commands_149 ?_
          refine lv_ldc2 (v := 600) hx hb hown (htM _ wM_68) dXM_commands_150 ?_
          refine lv_aload_n hx hb dXM_commands_153 rfl (lv_at hl 1 rfl) ?_
          refine va_get (D := D) (ci := 1) (v := .ref a0) (C := RXM) (T := TXM) (N := 19) hx hb hts hinU hown hK hP 0 rfl rfl 0 (by decide) (htM _ wM_5) (fun _ h9 => h9) rfl dXM_commands_154 ?_
          refine lv_iconst (v := 3) hx hb dXM_commands_157 (by decide +kernel) ?_
          refine bw_ld hx hb hK hP 1 0 rfl rfl 3 (by decide +kernel) (bw_in (by decide +kernel)) dXM_commands_158 ?_
          refine lv_i2l (v := (r0 3).toInt64) hx hb dXM_commands_159 rfl ?_
          refine lv_lmul hx hb dXM_commands_160 ?_
          refine lv_ldiv hx hb dXM_commands_161 hV ?_
          refine lv_lstore_n (lv' := [(3, .long (((((r0 1).toInt64) * 1000) * ((g14 + 1).toInt64)) / (600 * ((r0 3).toInt64)))), (2, .int y0), (0, .ref h0)]) hx hb dXM_commands_162 rfl hl (by decide) rfl (fun ls hl => ?_)
          refine lv_lload_n hx hb dXM_commands_163 rfl (lv_at hl 0 rfl) ?_
          refine lv_ldc2 (v := 500) hx hb hown (htM _ wM_69) dXM_commands_164 ?_
          refine lv_aload_n hx hb dXM_commands_167 rfl (lv_at hl 2 rfl) ?_
          refine va_get (D := D) (ci := 1) (v := .int g15) (C := RXM) (T := TXM) (N := 19) hx hb hts hinU hown hK hP 0 rfl rfl 15 (by decide) (htM _ wM_20) (fun _ h9 => h9) rfl dXM_commands_168 ?_
          refine lv_i2l (v := g15.toInt64) hx hb dXM_commands_171 rfl ?_
          refine lv_lmul hx hb dXM_commands_172 ?_
          refine lv_ldc2 (v := 500) hx hb hown (htM _ wM_69) dXM_commands_173 ?_
          refine lv_ladd hx hb dXM_commands_176 ?_
          refine W.lcmp hx hb dXM_commands_177 ?_
          refine lv_if_ge (tgt := 183) hx hb dXM_commands_178 (by decide) (fun hc178 => ?_) (fun hc178 => ?_)
          · rw [if_pos hc178] at hX
            unfold bM_commands_183 at hX
            refine lv_aload_n hx hb dXM_commands_183 rfl (lv_at hl 2 rfl) ?_
            refine lv_dup hx hb dXM_commands_184 rfl ?_
            refine va_get (D := D) (ci := 1) (v := .int g15) (C := RXM) (T := TXM) (N := 19) hx hb hts hinU hown hK hP 0 rfl rfl 15 (by decide) (htM _ wM_20) (fun _ h9 => h9) rfl dXM_commands_185 ?_
            refine lv_iconst (v := 1) hx hb dXM_commands_188 (by decide +kernel) ?_
            refine lv_iadd hx hb dXM_commands_189 ?_
            refine va_put (D := D) (ci := 1) (v := .int (g15 + 1)) (ty := .int) (C := RXM) (T := TXM) (N := 19) hx hb hts hinU tyXM tyXM_ok nmXM hown hK hP hD hS 0 rfl rfl 15 (by decide) (htM _ wM_20) (fun _ h9 => h9) rfl (by decide +kernel) rfl rfl (Nat.le_of_ble_eq_true rfl) dXM_commands_190 (fun H locs hP hD hS => ?_)
            have hP : va_P D vwC2 (wdM cI h0 a0 a1 a2 a9 g3 g4 g5 g6 g7 g8 g10 g11 g12 g13 (g14 + 1) (g15 + 1) g16 g17 g18 r0 r1 r2 r9) H := hP
            have hD : va_D A (wdM cI h0 a0 a1 a2 a9 g3 g4 g5 g6 g7 g8 g10 g11 g12 g13 (g14 + 1) (g15 + 1) g16 g17 g18 r0 r1 r2 r9) := hD
            refine lv_iload_n hx hb dXM_commands_193 rfl (lv_at hl 1 rfl) ?_
            refine lv_bipush (v := 8) hx hb dXM_commands_194 (by decide +kernel) ?_
            refine lv_iadd hx hb dXM_commands_196 ?_
            subst hQ
            exact W.iret (v := y0 + 8) hx hb hr (fun t ht hW => ⟨⟨y0 + 8, (g3, g4, g5, g6, g7, g8, g10, g11, g12, g13, g14 + 1, g15 + 1, g16, g17, g18, r0, r1, r2, r9), rfl, hX, by rw [ht]; exact hP, va_K.moved hW.alike hK, hD⟩, hS.F ht⟩) hS.2.2 dXM_commands_197
          · rw [if_neg hc178] at hX
            unfold bM_commands_181 at hX
            refine lv_iload_n hx hb dXM_commands_181 rfl (lv_at hl 1 rfl) ?_
            subst hQ
            exact W.iret (v := y0) hx hb hr (fun t ht hW => ⟨⟨y0, (g3, g4, g5, g6, g7, g8, g10, g11, g12, g13, g14 + 1, g15, g16, g17, g18, r0, r1, r2, r9), rfl, hX, by rw [ht]; exact hP, va_K.moved hW.alike hK, hD⟩, hS.F ht⟩) hS.2.2 dXM_commands_182
        · rw [if_neg hc118] at hX
          exact J121 g3 g4 g5 g6 g7 g8 g10 g11 g12 g13 g14 g15 g16 g17 g18 r1 r2 r9 y0 _ _ ls (lv_sub hl [1, 0] rfl) hP hD hS hX
  have J93 : ∀ (g3 g4 g5 g6 g7 g8 g10 g11 g12 g13 g14 g15 g16 g17 g18 : Int32) (r1 r2 r9 : Nat → Int32) (x2 : Int32) (H : Heap) (locs : List Loc) (ls : Array Slot), lv_has ls 5 [(0, .ref h0), (2, .int x2)] → va_P D vwC2 (wdM cI h0 a0 a1 a2 a9 g3 g4 g5 g6 g7 g8 g10 g11 g12 g13 g14 g15 g16 g17 g18 r0 r1 r2 r9) H → va_D A (wdM cI h0 a0 a1 a2 a9 g3 g4 g5 g6 g7 g8 g10 g11 g12 g13 g14 g15 g16 g17 g18 r0 r1 r2 r9) → va_S A s.heap H locs → bM_commands_93 g3 g4 g5 g6 g7 g8 g10 g11 g12 g13 g14 g15 g16 g17 g18 r0 r1 r2 r9 x2 = X → W p l e (headSpec wsXM_commands rmM_commands).room s m ([.ref h0] : List Value).toArray below meth c H locs 0 0 Q (F0 m 93 ls []) := by
    intro g3 g4 g5 g6 g7 g8 g10 g11 g12 g13 g14 g15 g16 g17 g18 r1 r2 r9 x2 H locs ls hl hP hD hS hX
    unfold bM_commands_93 at hX
    refine lv_iload_n hx hb dXM_commands_93 rfl (lv_at hl 1 rfl) ?_
    refine lv_iconst (v := 4) hx hb dXM_commands_94 (by decide +kernel) ?_
    refine lv_iadd hx hb dXM_commands_95 ?_
    refine lv_goto (tgt := 100) hx hb dXM_commands_96 (by decide) ?_
    exact J100 g3 g4 g5 g6 g7 g8 g10 g11 g12 g13 g14 g15 g16 g17 g18 r1 r2 r9 (x2 + 4) _ _ ls (lv_sub hl [0] rfl) hP hD hS hX
  have J63 : ∀ (g3 g4 g5 g6 g7 g8 g10 g11 g12 g13 g14 g15 g16 g17 g18 : Int32) (r1 r2 r9 : Nat → Int32) (y0 : Int32) (H : Heap) (locs : List Loc) (ls : Array Slot), lv_has ls 5 [(0, .ref h0)] → va_P D vwC2 (wdM cI h0 a0 a1 a2 a9 g3 g4 g5 g6 g7 g8 g10 g11 g12 g13 g14 g15 g16 g17 g18 r0 r1 r2 r9) H → va_D A (wdM cI h0 a0 a1 a2 a9 g3 g4 g5 g6 g7 g8 g10 g11 g12 g13 g14 g15 g16 g17 g18 r0 r1 r2 r9) → va_S A s.heap H locs → bM_commands_63 g3 g4 g5 g6 g7 g8 g10 g11 g12 g13 g14 g15 g16 g17 g18 r0 r1 r2 r9 y0 = X → W p l e (headSpec wsXM_commands rmM_commands).room s m ([.ref h0] : List Value).toArray below meth c H locs 0 0 Q (F0 m 63 ls [.int y0]) := by
    intro g3 g4 g5 g6 g7 g8 g10 g11 g12 g13 g14 g15 g16 g17 g18 r1 r2 r9 y0 H locs ls hl hP hD hS hX
    unfold bM_commands_63 at hX
    refine lv_istore_n (lv' := [(2, .int y0), (0, .ref h0)]) hx hb dXM_commands_63 rfl hl (by decide) rfl (fun ls hl => ?_)
    refine lv_aload_n hx hb dXM_commands_64 rfl (lv_at hl 1 rfl) ?_
    refine va_get (D := D) (ci := 1) (v := .int g3) (C := RXM) (T := TXM) (N := 19) hx hb hts hinU hown hK hP 0 rfl rfl 3 (by decide) (htM _ wM_8) (fun _ h9 => h9) rfl dXM_commands_65 ?_
    refine lv_iconst (v := 3) hx hb dXM_commands_68 (by decide +kernel) ?_
    refine lv_icmp_ne (tgt := 93) hx hb dXM_commands_69 (by decide) (fun hc69 => ?_) (fun hc69 => ?_)
    · rw [if_neg hc69] at hX
      exact J93 g3 g4 g5 g6 g7 g8 g10 g11 g12 g13 g14 g15 g16 g17 g18 r1 r2 r9 y0 _ _ ls (lv_sub hl [1, 0] rfl) hP hD hS hX
    · rw [if_pos hc69] at hX
      unfold bM_commands_72 at hX
      refine lv_aload_n hx hb dXM_commands_72 rfl (lv_at hl 1 rfl) ?_
      refine va_get (D := D) (ci := 1) (v := .int g13) (C := RXM) (T := TXM) (N := 19) hx hb hts hinU hown hK hP 0 rfl rfl 13 (by decide) (htM _ wM_18) (fun _ h9 => h9) rfl dXM_commands_73 ?_
      refine lv_aload_n hx hb dXM_commands_76 rfl (lv_at hl 1 rfl) ?_
      refine va_get (D := D) (ci := 1) (v := .int g8) (C := RXM) (T := TXM) (N := 19) hx hb hts hinU hown hK hP 0 rfl rfl 8 (by decide) (htM _ wM_13) (fun _ h9 => h9) rfl dXM_commands_77 ?_
      refine lv_icmp_eq (tgt := 93) hx hb dXM_commands_80 (by decide) (fun hc80 => ?_) (fun hc80 => ?_)
      · rw [if_pos hc80] at hX
        exact J93 g3 g4 g5 g6 g7 g8 g10 g11 g12 g13 g14 g15 g16 g17 g18 r1 r2 r9 y0 _ _ ls (lv_sub hl [1, 0] rfl) hP hD hS hX
      · rw [if_neg hc80] at hX
        unfold bM_commands_83 at hX
        refine lv_aload_n hx hb dXM_commands_83 rfl (lv_at hl 1 rfl) ?_
        refine va_get (D := D) (ci := 1) (v := .int g4) (C := RXM) (T := TXM) (N := 19) hx hb hts hinU hown hK hP 0 rfl rfl 4 (by decide) (htM _ wM_9) (fun _ h9 => h9) rfl dXM_commands_84 ?_
        refine lv_bipush (v := 8) hx hb dXM_commands_87 (by decide +kernel) ?_
        refine lv_iand hx hb dXM_commands_89 ?_
        refine lv_if_eq (tgt := 99) hx hb dXM_commands_90 (by decide) (fun hc90 => ?_) (fun hc90 => ?_)
        · rw [if_pos hc90] at hX
          unfold bM_commands_99 at hX
          refine lv_iload_n hx hb dXM_commands_99 rfl (lv_at hl 0 rfl) ?_
          exact J100 g3 g4 g5 g6 g7 g8 g10 g11 g12 g13 g14 g15 g16 g17 g18 r1 r2 r9 y0 _ _ ls (lv_sub hl [1] rfl) hP hD hS hX
        · rw [if_neg hc90] at hX
          exact J93 g3 g4 g5 g6 g7 g8 g10 g11 g12 g13 g14 g15 g16 g17 g18 r1 r2 r9 y0 _ _ ls (lv_sub hl [1, 0] rfl) hP hD hS hX
  have J62 : ∀ (g3 g4 g5 g6 g7 g8 g10 g11 g12 g13 g14 g15 g16 g17 g18 : Int32) (r1 r2 r9 : Nat → Int32) (x2 : Int32) (H : Heap) (locs : List Loc) (ls : Array Slot), lv_has ls 5 [(0, .ref h0), (2, .int x2)] → va_P D vwC2 (wdM cI h0 a0 a1 a2 a9 g3 g4 g5 g6 g7 g8 g10 g11 g12 g13 g14 g15 g16 g17 g18 r0 r1 r2 r9) H → va_D A (wdM cI h0 a0 a1 a2 a9 g3 g4 g5 g6 g7 g8 g10 g11 g12 g13 g14 g15 g16 g17 g18 r0 r1 r2 r9) → va_S A s.heap H locs → bM_commands_62 g3 g4 g5 g6 g7 g8 g10 g11 g12 g13 g14 g15 g16 g17 g18 r0 r1 r2 r9 x2 = X → W p l e (headSpec wsXM_commands rmM_commands).room s m ([.ref h0] : List Value).toArray below meth c H locs 0 0 Q (F0 m 62 ls []) := by
    intro g3 g4 g5 g6 g7 g8 g10 g11 g12 g13 g14 g15 g16 g17 g18 r1 r2 r9 x2 H locs ls hl hP hD hS hX
    unfold bM_commands_62 at hX
    refine lv_iload_n hx hb dXM_commands_62 rfl (lv_at hl 1 rfl) ?_
    exact J63 g3 g4 g5 g6 g7 g8 g10 g11 g12 g13 g14 g15 g16 g17 g18 r1 r2 r9 x2 _ _ ls (lv_sub hl [0] rfl) hP hD hS hX
  have J41 : ∀ (g3 g4 g5 g6 g7 g8 g10 g11 g12 g13 g14 g15 g16 g17 g18 : Int32) (r1 r2 r9 : Nat → Int32) (x1 : Int32) (y0 : Int32) (H : Heap) (locs : List Loc) (ls : Array Slot), lv_has ls 5 [(0, .ref h0), (1, .int x1)] → va_P D vwC2 (wdM cI h0 a0 a1 a2 a9 g3 g4 g5 g6 g7 g8 g10 g11 g12 g13 g14 g15 g16 g17 g18 r0 r1 r2 r9) H → va_D A (wdM cI h0 a0 a1 a2 a9 g3 g4 g5 g6 g7 g8 g10 g11 g12 g13 g14 g15 g16 g17 g18 r0 r1 r2 r9) → va_S A s.heap H locs → bM_commands_41 g3 g4 g5 g6 g7 g8 g10 g11 g12 g13 g14 g15 g16 g17 g18 r0 r1 r2 r9 x1 y0 = X → W p l e (headSpec wsXM_commands rmM_commands).room s m ([.ref h0] : List Value).toArray below meth c H locs 0 0 Q (F0 m 41 ls [.int y0]) := by
    intro g3 g4 g5 g6 g7 g8 g10 g11 g12 g13 g14 g15 g16 g17 g18 r1 r2 r9 x1 y0 H locs ls hl hP hD hS hX
    unfold bM_commands_41 at hX
    refine lv_istore_n (lv' := [(2, .int y0), (0, .ref h0), (1, .int x1)]) hx hb dXM_commands_41 rfl hl (by decide) rfl (fun ls hl => ?_)
    refine lv_iload_n hx hb dXM_commands_42 rfl (lv_at hl 2 rfl) ?_
    refine lv_if_eq (tgt := 62) hx hb dXM_commands_43 (by decide) (fun hc43 => ?_) (fun hc43 => ?_)
    · rw [if_pos hc43] at hX
      exact J62 g3 g4 g5 g6 g7 g8 g10 g11 g12 g13 g14 g15 g16 g17 g18 r1 r2 r9 y0 _ _ ls (lv_sub hl [1, 0] rfl) hP hD hS hX
    · rw [if_neg hc43] at hX
      unfold bM_commands_46 at hX
      refine lv_aload_n hx hb dXM_commands_46 rfl (lv_at hl 1 rfl) ?_
      refine va_get (D := D) (ci := 1) (v := .int g4) (C := RXM) (T := TXM) (N := 19) hx hb hts hinU hown hK hP 0 rfl rfl 4 (by decide) (htM _ wM_9) (fun _ h9 => h9) rfl dXM_commands_47 ?_
      refine lv_bipush (v := 38) hx hb dXM_commands_50 (by decide +kernel) ?_
      refine lv_iand hx hb dXM_commands_52 ?_
      refine lv_if_ne (tgt := 62) hx hb dXM_commands_53 (by decide) (fun hc53 => ?_) (fun hc53 => ?_)
      · rw [if_neg hc53] at hX
        exact J62 g3 g4 g5 g6 g7 g8 g10 g11 g12 g13 g14 g15 g16 g17 g18 r1 r2 r9 y0 _ _ ls (lv_sub hl [1, 0] rfl) hP hD hS hX
      · rw [if_pos hc53] at hX
        unfold bM_commands_56 at hX
        refine lv_iload_n hx hb dXM_commands_56 rfl (lv_at hl 0 rfl) ?_
        refine lv_iconst (v := 2) hx hb dXM_commands_57 (by decide +kernel) ?_
        refine lv_iadd hx hb dXM_commands_58 ?_
        refine lv_goto (tgt := 63) hx hb dXM_commands_59 (by decide) ?_
        exact J63 g3 g4 g5 g6 g7 g8 g10 g11 g12 g13 g14 g15 g16 g17 g18 r1 r2 r9 (y0 + 2) _ _ ls (lv_sub hl [1] rfl) hP hD hS hX
  have J40 : ∀ (g3 g4 g5 g6 g7 g8 g10 g11 g12 g13 g14 g15 g16 g17 g18 : Int32) (r1 r2 r9 : Nat → Int32) (x1 : Int32) (H : Heap) (locs : List Loc) (ls : Array Slot), lv_has ls 5 [(0, .ref h0), (1, .int x1)] → va_P D vwC2 (wdM cI h0 a0 a1 a2 a9 g3 g4 g5 g6 g7 g8 g10 g11 g12 g13 g14 g15 g16 g17 g18 r0 r1 r2 r9) H → va_D A (wdM cI h0 a0 a1 a2 a9 g3 g4 g5 g6 g7 g8 g10 g11 g12 g13 g14 g15 g16 g17 g18 r0 r1 r2 r9) → va_S A s.heap H locs → bM_commands_40 g3 g4 g5 g6 g7 g8 g10 g11 g12 g13 g14 g15 g16 g17 g18 r0 r1 r2 r9 x1 = X → W p l e (headSpec wsXM_commands rmM_commands).room s m ([.ref h0] : List Value).toArray below meth c H locs 0 0 Q (F0 m 40 ls []) := by
    intro g3 g4 g5 g6 g7 g8 g10 g11 g12 g13 g14 g15 g16 g17 g18 r1 r2 r9 x1 H locs ls hl hP hD hS hX
    unfold bM_commands_40 at hX
    refine lv_iconst (v := 0) hx hb dXM_commands_40 (by decide +kernel) ?_
    exact J41 g3 g4 g5 g6 g7 g8 g10 g11 g12 g13 g14 g15 g16 g17 g18 r1 r2 r9 x1 0 _ _ ls (lv_sub hl [0, 1] rfl) hP hD hS hX
  have J21 : ∀ (g3 g4 g5 g6 g7 g8 g10 g11 g12 g13 g14 g15 g16 g17 g18 : Int32) (r1 r2 r9 : Nat → Int32) (y0 : Int32) (H : Heap) (locs : List Loc) (ls : Array Slot), lv_has ls 5 [(0, .ref h0)] → va_P D vwC2 (wdM cI h0 a0 a1 a2 a9 g3 g4 g5 g6 g7 g8 g10 g11 g12 g13 g14 g15 g16 g17 g18 r0 r1 r2 r9) H → va_D A (wdM cI h0 a0 a1 a2 a9 g3 g4 g5 g6 g7 g8 g10 g11 g12 g13 g14 g15 g16 g17 g18 r0 r1 r2 r9) → va_S A s.heap H locs → bM_commands_21 g3 g4 g5 g6 g7 g8 g10 g11 g12 g13 g14 g15 g16 g17 g18 r0 r1 r2 r9 y0 = X → W p l e (headSpec wsXM_commands rmM_commands).room s m ([.ref h0] : List Value).toArray below meth c H locs 0 0 Q (F0 m 21 ls [.int y0]) := by
    intro g3 g4 g5 g6 g7 g8 g10 g11 g12 g13 g14 g15 g16 g17 g18 r1 r2 r9 y0 H locs ls hl hP hD hS hX
    unfold bM_commands_21 at hX
    refine lv_istore_n (lv' := [(1, .int y0), (0, .ref h0)]) hx hb dXM_commands_21 rfl hl (by decide) rfl (fun ls hl => ?_)
    refine lv_iload_n hx hb dXM_commands_22 rfl (lv_at hl 0 rfl) ?_
    refine lv_if_eq (tgt := 40) hx hb dXM_commands_23 (by decide) (fun hc23 => ?_) (fun hc23 => ?_)
    · rw [if_pos hc23] at hX
      exact J40 g3 g4 g5 g6 g7 g8 g10 g11 g12 g13 g14 g15 g16 g17 g18 r1 r2 r9 y0 _ _ ls (lv_sub hl [1, 0] rfl) hP hD hS hX
    · rw [if_neg hc23] at hX
      unfold bM_commands_26 at hX
      refine lv_aload_n hx hb dXM_commands_26 rfl (lv_at hl 1 rfl) ?_
      refine va_get (D := D) (ci := 1) (v := .int g4) (C := RXM) (T := TXM) (N := 19) hx hb hts hinU hown hK hP 0 rfl rfl 4 (by decide) (htM _ wM_9) (fun _ h9 => h9) rfl dXM_commands_27 ?_
      refine lv_bipush (v := (-17)) hx hb dXM_commands_30 (by decide +kernel) ?_
      refine lv_iand hx hb dXM_commands_32 ?_
      refine lv_if_ne (tgt := 40) hx hb dXM_commands_33 (by decide) (fun hc33 => ?_) (fun hc33 => ?_)
      · rw [if_neg hc33] at hX
        exact J40 g3 g4 g5 g6 g7 g8 g10 g11 g12 g13 g14 g15 g16 g17 g18 r1 r2 r9 y0 _ _ ls (lv_sub hl [1, 0] rfl) hP hD hS hX
      · rw [if_pos hc33] at hX
        unfold bM_commands_36 at hX
        refine lv_iconst (v := 1) hx hb dXM_commands_36 (by decide +kernel) ?_
        refine lv_goto (tgt := 41) hx hb dXM_commands_37 (by decide) ?_
        exact J41 g3 g4 g5 g6 g7 g8 g10 g11 g12 g13 g14 g15 g16 g17 g18 r1 r2 r9 y0 1 _ _ ls (lv_sub hl [1, 0] rfl) hP hD hS hX
  have J20 : ∀ (g3 g4 g5 g6 g7 g8 g10 g11 g12 g13 g14 g15 g16 g17 g18 : Int32) (r1 r2 r9 : Nat → Int32) (H : Heap) (locs : List Loc) (ls : Array Slot), lv_has ls 5 [(0, .ref h0)] → va_P D vwC2 (wdM cI h0 a0 a1 a2 a9 g3 g4 g5 g6 g7 g8 g10 g11 g12 g13 g14 g15 g16 g17 g18 r0 r1 r2 r9) H → va_D A (wdM cI h0 a0 a1 a2 a9 g3 g4 g5 g6 g7 g8 g10 g11 g12 g13 g14 g15 g16 g17 g18 r0 r1 r2 r9) → va_S A s.heap H locs → bM_commands_20 g3 g4 g5 g6 g7 g8 g10 g11 g12 g13 g14 g15 g16 g17 g18 r0 r1 r2 r9 = X → W p l e (headSpec wsXM_commands rmM_commands).room s m ([.ref h0] : List Value).toArray below meth c H locs 0 0 Q (F0 m 20 ls []) := by
    intro g3 g4 g5 g6 g7 g8 g10 g11 g12 g13 g14 g15 g16 g17 g18 r1 r2 r9 H locs ls hl hP hD hS hX
    unfold bM_commands_20 at hX
    refine lv_iconst (v := 0) hx hb dXM_commands_20 (by decide +kernel) ?_
    exact J21 g3 g4 g5 g6 g7 g8 g10 g11 g12 g13 g14 g15 g16 g17 g18 r1 r2 r9 0 _ _ ls (lv_sub hl [0] rfl) hP hD hS hX
  unfold sM_commands at hX
  unfold bM_commands_0 at hX
  refine lv_aload_n hx hb dXM_commands_0 rfl (lv_at hl 0 rfl) ?_
  refine va_get (D := D) (ci := 1) (v := .int g3) (C := RXM) (T := TXM) (N := 19) hx hb hts hinU hown hK hP 0 rfl rfl 3 (by decide) (htM _ wM_8) (fun _ h9 => h9) rfl dXM_commands_1 ?_
  refine lv_iconst (v := 1) hx hb dXM_commands_4 (by decide +kernel) ?_
  refine lv_icmp_lt (tgt := 20) hx hb dXM_commands_5 (by decide) (fun hc5 => ?_) (fun hc5 => ?_)
  · rw [if_pos hc5] at hX
    exact J20 g3 g4 g5 g6 g7 g8 g10 g11 g12 g13 g14 g15 g16 g17 g18 r1 r2 r9 _ _ ls (lv_sub hl [0] rfl) hP hD hS hX
  · rw [if_neg hc5] at hX
    unfold bM_commands_8 at hX
    refine lv_aload_n hx hb dXM_commands_8 rfl (lv_at hl 0 rfl) ?_
    refine va_get (D := D) (ci := 1) (v := .int g3) (C := RXM) (T := TXM) (N := 19) hx hb hts hinU hown hK hP 0 rfl rfl 3 (by decide) (htM _ wM_8) (fun _ h9 => h9) rfl dXM_commands_9 ?_
    refine lv_iconst (v := 4) hx hb dXM_commands_12 (by decide +kernel) ?_
    refine lv_icmp_gt (tgt := 20) hx hb dXM_commands_13 (by decide) (fun hc13 => ?_) (fun hc13 => ?_)
    · rw [if_pos hc13] at hX
      exact J20 g3 g4 g5 g6 g7 g8 g10 g11 g12 g13 g14 g15 g16 g17 g18 r1 r2 r9 _ _ ls (lv_sub hl [0] rfl) hP hD hS hX
    · rw [if_neg hc13] at hX
      unfold bM_commands_16 at hX
      refine lv_iconst (v := 1) hx hb dXM_commands_16 (by decide +kernel) ?_
      refine lv_goto (tgt := 21) hx hb dXM_commands_17 (by decide) ?_
      exact J21 g3 g4 g5 g6 g7 g8 g10 g11 g12 g13 g14 g15 g16 g17 g18 r1 r2 r9 1 _ _ ls (lv_sub hl [0] rfl) hP hD hS hX
abbrev rmM_guarded : Room := { frames := 1, cells := 0, slots := 0, locals := 23 }
set_option maxHeartbeats 4000000 in
set_option maxRecDepth 100000 in
theorem ctM_guarded (l : Launch) (D : va_G) (cI : ClassId) (h0 a0 a1 a2 a9 sz : Nat) (g3 g4 g5 g6 g7 g8 g10 g11 g12 g13 g14 g15 g16 g17 g18 : Int32) (r0 r1 r2 r9 : Nat → Int32) (k1 : Int32)  : Met l yXM_guarded wsXM_guarded rmM_guarded (va_Pc [.ref h0, .int k1] (bw_pr D vwC2 [(cI, .int)] (wdM cI h0 a0 a1 a2 a9 g3 g4 g5 g6 g7 g8 g10 g11 g12 g13 g14 g15 g16 g17 g18 r0 r1 r2 r9) sz (fun _ => True))) (va_Qi (fun r u => (r, u) = sM_guarded g3 g4 g5 g6 g7 g8 g10 g11 g12 g13 g14 g15 g16 g17 g18 r0 r1 r2 r9 k1) (bw_at D vwC2 [(cI, .int)] (wfM cI h0 a0 a1 a2 a9) (va_A (wdM cI h0 a0 a1 a2 a9 g3 g4 g5 g6 g7 g8 g10 g11 g12 g13 g14 g15 g16 g17 g18 r0 r1 r2 r9) sz)) (va_A (wdM cI h0 a0 a1 a2 a9 g3 g4 g5 g6 g7 g8 g10 g11 g12 g13 g14 g15 g16 g17 g18 r0 r1 r2 r9) sz)) 0 0 (va_A (wdM cI h0 a0 a1 a2 a9 g3 g4 g5 g6 g7 g8 g10 g11 g12 g13 g14 g15 g16 g17 g18 r0 r1 r2 r9) sz) := by
  refine Met.ofW (cc := cXM_guarded) (maxL := 4) (ret := (some .int)) (by decide) rfl ?_
  intro p e s m args below meth c s₁ B hml hv
  obtain ⟨rfl, hsz, hP, hK, hD0, hT⟩ := hv
  have hx := B.exec
  have hb := B.bytes
  have hr := B.returns
  have hts := atoms_spec (ws := wsXM_guarded) B.pre
  have hown : s.vm.findClass RXM = some m.cls := findClass_of_methodNamed B.named
  have hlocks := B.notSynchronized
  subst hsz
  have hD := hD0.self (sz := s.heap.size)
  generalize hAe : va_A (wdM cI h0 a0 a1 a2 a9 g3 g4 g5 g6 g7 g8 g10 g11 g12 g13 g14 g15 g16 g17 g18 r0 r1 r2 r9) s.heap.size = A at hD hT ⊢
  have hA : ∀ q : Nat, s.heap.size ≤ q → A q := fun q h => by rw [← hAe]; exact Or.inr h
  have hS : va_S A s.heap s.heap [] := va_S.rf
  have hl := lv_entry ([.ref h0, .int k1]) (n := 4) (Nat.le_of_ble_eq_true rfl)
  rw [lg_entry_eq]
  generalize (lg_sl ([.ref h0, .int k1]) ++ List.replicate (4 - (lg_sl ([.ref h0, .int k1])).length) Slot.unset).toArray = ls at hl ⊢
  have hl : lv_has ls 4 [(0, .ref h0), (1, .int k1)] := hl
  generalize hX : sM_guarded g3 g4 g5 g6 g7 g8 g10 g11 g12 g13 g14 g15 g16 g17 g18 r0 r1 r2 r9 k1 = X
  refine bw_Q (fun Q hQ => ?_)
  have hinU : ∀ w ∈ wsXM0, w ∈ wsXM_guarded := fun w h => List.mem_cons_of_mem _ (List.mem_append_right _ h)
  have htM := fun w h => hts w (List.mem_cons_of_mem _ (List.mem_append_left _ h))
  have J143 : ∀ (g3 g4 g5 g6 g7 g8 g10 g11 g12 g13 g14 g15 g16 g17 g18 : Int32) (r0 r1 r2 r9 : Nat → Int32) (x3 : Int32) (H : Heap) (locs : List Loc) (ls : Array Slot), lv_has ls 4 [(0, .ref h0), (3, .int x3)] → va_P D vwC2 (wdM cI h0 a0 a1 a2 a9 g3 g4 g5 g6 g7 g8 g10 g11 g12 g13 g14 g15 g16 g17 g18 r0 r1 r2 r9) H → va_D A (wdM cI h0 a0 a1 a2 a9 g3 g4 g5 g6 g7 g8 g10 g11 g12 g13 g14 g15 g16 g17 g18 r0 r1 r2 r9) → va_S A s.heap H locs → bM_guarded_143 g3 g4 g5 g6 g7 g8 g10 g11 g12 g13 g14 g15 g16 g17 g18 r0 r1 r2 r9 x3 = X → W p l e (headSpec wsXM_guarded rmM_guarded).room s m ([.ref h0, .int k1] : List Value).toArray below meth c H locs 0 0 Q (F0 m 143 ls []) := by
    intro g3 g4 g5 g6 g7 g8 g10 g11 g12 g13 g14 g15 g16 g17 g18 r0 r1 r2 r9 x3 H locs ls hl hP hD hS hX
    unfold bM_guarded_143 at hX
    refine lv_iload_n hx hb dXM_guarded_143 rfl (lv_at hl 1 rfl) ?_
    subst hQ
    exact W.iret (v := x3) hx hb hr (fun t ht hW => ⟨⟨x3, (g3, g4, g5, g6, g7, g8, g10, g11, g12, g13, g14, g15, g16, g17, g18, r0, r1, r2, r9), rfl, hX, by rw [ht]; exact hP, va_K.moved hW.alike hK, hD⟩, hS.F ht⟩) hS.2.2 dXM_guarded_144
  have J138 : ∀ (g3 g4 g5 g6 g7 g8 g10 g11 g12 g13 g14 g15 g16 g17 g18 : Int32) (r0 r1 r2 r9 : Nat → Int32) (x3 : Int32) (H : Heap) (locs : List Loc) (ls : Array Slot), lv_has ls 4 [(0, .ref h0), (3, .int x3)] → va_P D vwC2 (wdM cI h0 a0 a1 a2 a9 g3 g4 g5 g6 g7 g8 g10 g11 g12 g13 g14 g15 g16 g17 g18 r0 r1 r2 r9) H → va_D A (wdM cI h0 a0 a1 a2 a9 g3 g4 g5 g6 g7 g8 g10 g11 g12 g13 g14 g15 g16 g17 g18 r0 r1 r2 r9) → va_S A s.heap H locs → bM_guarded_138 g3 g4 g5 g6 g7 g8 g10 g11 g12 g13 g14 g15 g16 g17 g18 r0 r1 r2 r9 x3 = X → W p l e (headSpec wsXM_guarded rmM_guarded).room s m ([.ref h0, .int k1] : List Value).toArray below meth c H locs 0 0 Q (F0 m 138 ls []) := by
    intro g3 g4 g5 g6 g7 g8 g10 g11 g12 g13 g14 g15 g16 g17 g18 r0 r1 r2 r9 x3 H locs ls hl hP hD hS hX
    unfold bM_guarded_138 at hX
    refine lv_iload_n hx hb dXM_guarded_138 rfl (lv_at hl 1 rfl) ?_
    refine lv_bipush (v := (-9)) hx hb dXM_guarded_139 (by decide +kernel) ?_
    refine lv_iand hx hb dXM_guarded_141 ?_
    refine lv_istore_n (lv' := [(3, .int (x3 &&& ((-9)))), (0, .ref h0)]) hx hb dXM_guarded_142 rfl hl (by decide) rfl (fun ls hl => ?_)
    exact J143 g3 g4 g5 g6 g7 g8 g10 g11 g12 g13 g14 g15 g16 g17 g18 r0 r1 r2 r9 (x3 &&& ((-9))) _ _ ls (lv_sub hl [1, 0] rfl) hP hD hS hX
  have J103 : ∀ (g3 g4 g5 g6 g7 g8 g10 g11 g12 g13 g14 g15 g16 g17 g18 : Int32) (r0 r1 r2 r9 : Nat → Int32) (x3 : Int32) (H : Heap) (locs : List Loc) (ls : Array Slot), lv_has ls 4 [(0, .ref h0), (3, .int x3)] → va_P D vwC2 (wdM cI h0 a0 a1 a2 a9 g3 g4 g5 g6 g7 g8 g10 g11 g12 g13 g14 g15 g16 g17 g18 r0 r1 r2 r9) H → va_D A (wdM cI h0 a0 a1 a2 a9 g3 g4 g5 g6 g7 g8 g10 g11 g12 g13 g14 g15 g16 g17 g18 r0 r1 r2 r9) → va_S A s.heap H locs → bM_guarded_103 g3 g4 g5 g6 g7 g8 g10 g11 g12 g13 g14 g15 g16 g17 g18 r0 r1 r2 r9 x3 = X → W p l e (headSpec wsXM_guarded rmM_guarded).room s m ([.ref h0, .int k1] : List Value).toArray below meth c H locs 0 0 Q (F0 m 103 ls []) := by
    intro g3 g4 g5 g6 g7 g8 g10 g11 g12 g13 g14 g15 g16 g17 g18 r0 r1 r2 r9 x3 H locs ls hl hP hD hS hX
    unfold bM_guarded_103 at hX
    refine lv_aload_n hx hb dXM_guarded_103 rfl (lv_at hl 0 rfl) ?_
    refine va_get (D := D) (ci := 1) (v := .int g3) (C := RXM) (T := TXM) (N := 19) hx hb hts hinU hown hK hP 0 rfl rfl 3 (by decide) (htM _ wM_8) (fun _ h9 => h9) rfl dXM_guarded_104 ?_
    refine lv_iconst (v := 3) hx hb dXM_guarded_107 (by decide +kernel) ?_
    refine lv_icmp_ne (tgt := 138) hx hb dXM_guarded_108 (by decide) (fun hc108 => ?_) (fun hc108 => ?_)
    · rw [if_neg hc108] at hX
      exact J138 g3 g4 g5 g6 g7 g8 g10 g11 g12 g13 g14 g15 g16 g17 g18 r0 r1 r2 r9 x3 _ _ ls (lv_sub hl [0, 1] rfl) hP hD hS hX
    · rw [if_pos hc108] at hX
      unfold bM_guarded_111 at hX
      refine lv_sipush (v := 500) hx hb dXM_guarded_111 (by decide +kernel) ?_
      refine lv_aload_n hx hb dXM_guarded_114 rfl (lv_at hl 0 rfl) ?_
      refine va_get (D := D) (ci := 1) (v := .int g16) (C := RXM) (T := TXM) (N := 19) hx hb hts hinU hown hK hP 0 rfl rfl 16 (by decide) (htM _ wM_21) (fun _ h9 => h9) rfl dXM_guarded_115 ?_
      refine lv_iconst (v := 1) hx hb dXM_guarded_118 (by decide +kernel) ?_
      refine lv_iadd hx hb dXM_guarded_119 ?_
      refine lv_imul hx hb dXM_guarded_120 ?_
      refine lv_aload_n hx hb dXM_guarded_121 rfl (lv_at hl 0 rfl) ?_
      refine va_get (D := D) (ci := 1) (v := .ref a0) (C := RXM) (T := TXM) (N := 19) hx hb hts hinU hown hK hP 0 rfl rfl 0 (by decide) (htM _ wM_5) (fun _ h9 => h9) rfl dXM_guarded_122 ?_
      refine lv_iconst (v := 1) hx hb dXM_guarded_125 (by decide +kernel) ?_
      refine bw_ld hx hb hK hP 1 0 rfl rfl 1 (by decide +kernel) (bw_in (by decide +kernel)) dXM_guarded_126 ?_
      refine lv_sipush (v := 1000) hx hb dXM_guarded_127 (by decide +kernel) ?_
      refine lv_imul hx hb dXM_guarded_130 ?_
      refine lv_sipush (v := 500) hx hb dXM_guarded_131 (by decide +kernel) ?_
      refine lv_iadd hx hb dXM_guarded_134 ?_
      refine lv_icmp_le (tgt := 143) hx hb dXM_guarded_135 (by decide) (fun hc135 => ?_) (fun hc135 => ?_)
      · rw [if_pos hc135] at hX
        exact J143 g3 g4 g5 g6 g7 g8 g10 g11 g12 g13 g14 g15 g16 g17 g18 r0 r1 r2 r9 x3 _ _ ls (lv_sub hl [0, 1] rfl) hP hD hS hX
      · rw [if_neg hc135] at hX
        exact J138 g3 g4 g5 g6 g7 g8 g10 g11 g12 g13 g14 g15 g16 g17 g18 r0 r1 r2 r9 x3 _ _ ls (lv_sub hl [0, 1] rfl) hP hD hS hX
  have J79 : ∀ (g3 g4 g5 g6 g7 g8 g10 g11 g12 g13 g14 g15 g16 g17 g18 : Int32) (r0 r1 r2 r9 : Nat → Int32) (x3 : Int32) (H : Heap) (locs : List Loc) (ls : Array Slot), lv_has ls 4 [(0, .ref h0), (3, .int x3)] → va_P D vwC2 (wdM cI h0 a0 a1 a2 a9 g3 g4 g5 g6 g7 g8 g10 g11 g12 g13 g14 g15 g16 g17 g18 r0 r1 r2 r9) H → va_D A (wdM cI h0 a0 a1 a2 a9 g3 g4 g5 g6 g7 g8 g10 g11 g12 g13 g14 g15 g16 g17 g18 r0 r1 r2 r9) → va_S A s.heap H locs → bM_guarded_79 g3 g4 g5 g6 g7 g8 g10 g11 g12 g13 g14 g15 g16 g17 g18 r0 r1 r2 r9 x3 = X → W p l e (headSpec wsXM_guarded rmM_guarded).room s m ([.ref h0, .int k1] : List Value).toArray below meth c H locs 0 0 Q (F0 m 79 ls []) := by
    intro g3 g4 g5 g6 g7 g8 g10 g11 g12 g13 g14 g15 g16 g17 g18 r0 r1 r2 r9 x3 H locs ls hl hP hD hS hX
    unfold bM_guarded_79 at hX
    refine lv_aload_n hx hb dXM_guarded_79 rfl (lv_at hl 0 rfl) ?_
    refine va_get (D := D) (ci := 1) (v := .int g3) (C := RXM) (T := TXM) (N := 19) hx hb hts hinU hown hK hP 0 rfl rfl 3 (by decide) (htM _ wM_8) (fun _ h9 => h9) rfl dXM_guarded_80 ?_
    refine lv_iconst (v := 3) hx hb dXM_guarded_83 (by decide +kernel) ?_
    refine lv_icmp_ne (tgt := 103) hx hb dXM_guarded_84 (by decide) (fun hc84 => ?_) (fun hc84 => ?_)
    · rw [if_neg hc84] at hX
      exact J103 g3 g4 g5 g6 g7 g8 g10 g11 g12 g13 g14 g15 g16 g17 g18 r0 r1 r2 r9 x3 _ _ ls (lv_sub hl [0, 1] rfl) hP hD hS hX
    · rw [if_pos hc84] at hX
      unfold bM_guarded_87 at hX
      refine lv_aload_n hx hb dXM_guarded_87 rfl (lv_at hl 0 rfl) ?_
      refine va_get (D := D) (ci := 1) (v := .ref a1) (C := RXM) (T := TXM) (N := 19) hx hb hts hinU hown hK hP 0 rfl rfl 1 (by decide) (htM _ wM_6) (fun _ h9 => h9) rfl dXM_guarded_88 ?_
      refine lv_iconst (v := 2) hx hb dXM_guarded_91 (by decide +kernel) ?_
      refine bw_ld hx hb hK hP 2 0 rfl rfl 2 (by decide +kernel) (bw_in (by decide +kernel)) dXM_guarded_92 ?_
      refine lv_sipush (v := 410) hx hb dXM_guarded_93 (by decide +kernel) ?_
      refine lv_icmp_le (tgt := 103) hx hb dXM_guarded_96 (by decide) (fun hc96 => ?_) (fun hc96 => ?_)
      · rw [if_pos hc96] at hX
        exact J103 g3 g4 g5 g6 g7 g8 g10 g11 g12 g13 g14 g15 g16 g17 g18 r0 r1 r2 r9 x3 _ _ ls (lv_sub hl [0, 1] rfl) hP hD hS hX
      · rw [if_neg hc96] at hX
        unfold bM_guarded_99 at hX
        refine lv_iload_n hx hb dXM_guarded_99 rfl (lv_at hl 1 rfl) ?_
        refine lv_iconst (v := 4) hx hb dXM_guarded_100 (by decide +kernel) ?_
        refine lv_ior hx hb dXM_guarded_101 ?_
        refine lv_istore_n (lv' := [(3, .int (x3 ||| 4)), (0, .ref h0)]) hx hb dXM_guarded_102 rfl hl (by decide) rfl (fun ls hl => ?_)
        exact J103 g3 g4 g5 g6 g7 g8 g10 g11 g12 g13 g14 g15 g16 g17 g18 r0 r1 r2 r9 (x3 ||| 4) _ _ ls (lv_sub hl [1, 0] rfl) hP hD hS hX
  have J58 : ∀ (g3 g4 g5 g6 g7 g8 g10 g11 g12 g13 g14 g15 g16 g17 g18 : Int32) (r0 r1 r2 r9 : Nat → Int32) (x1 : Int32) (y0 : Int32) (H : Heap) (locs : List Loc) (ls : Array Slot), lv_has ls 4 [(0, .ref h0), (1, .int x1)] → va_P D vwC2 (wdM cI h0 a0 a1 a2 a9 g3 g4 g5 g6 g7 g8 g10 g11 g12 g13 g14 g15 g16 g17 g18 r0 r1 r2 r9) H → va_D A (wdM cI h0 a0 a1 a2 a9 g3 g4 g5 g6 g7 g8 g10 g11 g12 g13 g14 g15 g16 g17 g18 r0 r1 r2 r9) → va_S A s.heap H locs → bM_guarded_58 g3 g4 g5 g6 g7 g8 g10 g11 g12 g13 g14 g15 g16 g17 g18 r0 r1 r2 r9 x1 y0 = X → W p l e (headSpec wsXM_guarded rmM_guarded).room s m ([.ref h0, .int k1] : List Value).toArray below meth c H locs 0 0 Q (F0 m 58 ls [.int y0]) := by
    intro g3 g4 g5 g6 g7 g8 g10 g11 g12 g13 g14 g15 g16 g17 g18 r0 r1 r2 r9 x1 y0 H locs ls hl hP hD hS hX
    unfold bM_guarded_58 at hX
    refine lv_istore_n (lv' := [(2, .int y0), (0, .ref h0), (1, .int x1)]) hx hb dXM_guarded_58 rfl hl (by decide) rfl (fun ls hl => ?_)
    refine lv_iload_n hx hb dXM_guarded_59 rfl (lv_at hl 2 rfl) ?_
    refine lv_istore_n (lv' := [(3, .int x1), (2, .int y0), (0, .ref h0), (1, .int x1)]) hx hb dXM_guarded_60 rfl hl (by decide) rfl (fun ls hl => ?_)
    refine lv_iload_n hx hb dXM_guarded_61 rfl (lv_at hl 1 rfl) ?_
    refine lv_if_eq (tgt := 79) hx hb dXM_guarded_62 (by decide) (fun hc62 => ?_) (fun hc62 => ?_)
    · rw [if_pos hc62] at hX
      exact J79 g3 g4 g5 g6 g7 g8 g10 g11 g12 g13 g14 g15 g16 g17 g18 r0 r1 r2 r9 x1 _ _ ls (lv_sub hl [2, 0] rfl) hP hD hS hX
    · rw [if_neg hc62] at hX
      unfold bM_guarded_65 at hX
      refine lv_aload_n hx hb dXM_guarded_65 rfl (lv_at hl 2 rfl) ?_
      refine lv_dup hx hb dXM_guarded_66 rfl ?_
      refine va_get (D := D) (ci := 1) (v := .int g17) (C := RXM) (T := TXM) (N := 19) hx hb hts hinU hown hK hP 0 rfl rfl 17 (by decide) (htM _ wM_22) (fun _ h9 => h9) rfl dXM_guarded_67 ?_
      refine lv_iconst (v := 1) hx hb dXM_guarded_70 (by decide +kernel) ?_
      refine lv_iadd hx hb dXM_guarded_71 ?_
      refine va_put (D := D) (ci := 1) (v := .int (g17 + 1)) (ty := .int) (C := RXM) (T := TXM) (N := 19) hx hb hts hinU tyXM tyXM_ok nmXM hown hK hP hD hS 0 rfl rfl 17 (by decide) (htM _ wM_22) (fun _ h9 => h9) rfl (by decide +kernel) rfl rfl (Nat.le_of_ble_eq_true rfl) dXM_guarded_72 (fun H locs hP hD hS => ?_)
      have hP : va_P D vwC2 (wdM cI h0 a0 a1 a2 a9 g3 g4 g5 g6 g7 g8 g10 g11 g12 g13 g14 g15 g16 (g17 + 1) g18 r0 r1 r2 r9) H := hP
      have hD : va_D A (wdM cI h0 a0 a1 a2 a9 g3 g4 g5 g6 g7 g8 g10 g11 g12 g13 g14 g15 g16 (g17 + 1) g18 r0 r1 r2 r9) := hD
      refine lv_iload_n hx hb dXM_guarded_75 rfl (lv_at hl 0 rfl) ?_
      refine lv_iconst (v := 4) hx hb dXM_guarded_76 (by decide +kernel) ?_
      refine lv_iand hx hb dXM_guarded_77 ?_
      refine lv_istore_n (lv' := [(3, .int (x1 &&& 4)), (2, .int y0), (0, .ref h0), (1, .int x1)]) hx hb dXM_guarded_78 rfl hl (by decide) rfl (fun ls hl => ?_)
      exact J79 g3 g4 g5 g6 g7 g8 g10 g11 g12 g13 g14 g15 g16 (g17 + 1) g18 r0 r1 r2 r9 (x1 &&& 4) _ _ ls (lv_sub hl [2, 0] rfl) hP hD hS hX
  have J57 : ∀ (g3 g4 g5 g6 g7 g8 g10 g11 g12 g13 g14 g15 g16 g17 g18 : Int32) (r0 r1 r2 r9 : Nat → Int32) (x1 : Int32) (H : Heap) (locs : List Loc) (ls : Array Slot), lv_has ls 4 [(0, .ref h0), (1, .int x1)] → va_P D vwC2 (wdM cI h0 a0 a1 a2 a9 g3 g4 g5 g6 g7 g8 g10 g11 g12 g13 g14 g15 g16 g17 g18 r0 r1 r2 r9) H → va_D A (wdM cI h0 a0 a1 a2 a9 g3 g4 g5 g6 g7 g8 g10 g11 g12 g13 g14 g15 g16 g17 g18 r0 r1 r2 r9) → va_S A s.heap H locs → bM_guarded_57 g3 g4 g5 g6 g7 g8 g10 g11 g12 g13 g14 g15 g16 g17 g18 r0 r1 r2 r9 x1 = X → W p l e (headSpec wsXM_guarded rmM_guarded).room s m ([.ref h0, .int k1] : List Value).toArray below meth c H locs 0 0 Q (F0 m 57 ls []) := by
    intro g3 g4 g5 g6 g7 g8 g10 g11 g12 g13 g14 g15 g16 g17 g18 r0 r1 r2 r9 x1 H locs ls hl hP hD hS hX
    unfold bM_guarded_57 at hX
    refine lv_iconst (v := 0) hx hb dXM_guarded_57 (by decide +kernel) ?_
    exact J58 g3 g4 g5 g6 g7 g8 g10 g11 g12 g13 g14 g15 g16 g17 g18 r0 r1 r2 r9 x1 0 _ _ ls (lv_sub hl [0, 1] rfl) hP hD hS hX
  have J53 : ∀ (g3 g4 g5 g6 g7 g8 g10 g11 g12 g13 g14 g15 g16 g17 g18 : Int32) (r0 r1 r2 r9 : Nat → Int32) (x1 : Int32) (H : Heap) (locs : List Loc) (ls : Array Slot), lv_has ls 4 [(0, .ref h0), (1, .int x1)] → va_P D vwC2 (wdM cI h0 a0 a1 a2 a9 g3 g4 g5 g6 g7 g8 g10 g11 g12 g13 g14 g15 g16 g17 g18 r0 r1 r2 r9) H → va_D A (wdM cI h0 a0 a1 a2 a9 g3 g4 g5 g6 g7 g8 g10 g11 g12 g13 g14 g15 g16 g17 g18 r0 r1 r2 r9) → va_S A s.heap H locs → bM_guarded_53 g3 g4 g5 g6 g7 g8 g10 g11 g12 g13 g14 g15 g16 g17 g18 r0 r1 r2 r9 x1 = X → W p l e (headSpec wsXM_guarded rmM_guarded).room s m ([.ref h0, .int k1] : List Value).toArray below meth c H locs 0 0 Q (F0 m 53 ls []) := by
    intro g3 g4 g5 g6 g7 g8 g10 g11 g12 g13 g14 g15 g16 g17 g18 r0 r1 r2 r9 x1 H locs ls hl hP hD hS hX
    unfold bM_guarded_53 at hX
    refine lv_iconst (v := 1) hx hb dXM_guarded_53 (by decide +kernel) ?_
    refine lv_goto (tgt := 58) hx hb dXM_guarded_54 (by decide) ?_
    exact J58 g3 g4 g5 g6 g7 g8 g10 g11 g12 g13 g14 g15 g16 g17 g18 r0 r1 r2 r9 x1 1 _ _ ls (lv_sub hl [0, 1] rfl) hP hD hS hX
  unfold sM_guarded at hX
  unfold bM_guarded_0 at hX
  refine lv_aload_n hx hb dXM_guarded_0 rfl (lv_at hl 0 rfl) ?_
  refine bw_Vi (wr := []) (As := []) (rest := []) ⟨hx, hb, hml, hown, hts⟩ (ctM_onPatient l D cI h0 a0 a1 a2 a9 _ g3 g4 g5 g6 g7 g8 g10 g11 g12 g13 g14 g15 g16 g17 g18 r0 r1 r2 r9) (cwV 0 hts gXM_guarded_XM_onPatient rfl rfl rfl (by decide +kernel) ⟨Nat.le_of_ble_eq_true rfl, Nat.le_of_ble_eq_true rfl⟩) hK hP hD hS hA (fun _ _ _ _ h => h) (fun _ _ _ => trivial) 0 rfl rfl rfl hl.1 rfl (Nat.le_of_ble_eq_true rfl) dXM_guarded_1 ⟨Nat.le_of_ble_eq_true rfl, Nat.le_of_ble_eq_true rfl⟩ (fun q1 u H locs hu hP hD hS => ?_)
  obtain ⟨hr1, rfl⟩ := hu
  subst hr1
  have hP : va_P D vwC2 (wdM cI h0 a0 a1 a2 a9 g3 g4 g5 g6 g7 g8 g10 g11 g12 g13 g14 g15 g16 g17 g18 r0 r1 r2 r9) H := hP
  have hD : va_D A (wdM cI h0 a0 a1 a2 a9 g3 g4 g5 g6 g7 g8 g10 g11 g12 g13 g14 g15 g16 g17 g18 r0 r1 r2 r9) := hD
  refine lv_if_eq (tgt := 57) hx hb dXM_guarded_4 (by decide) (fun hc4 => ?_) (fun hc4 => ?_)
  · rw [if_pos hc4] at hX
    exact J57 g3 g4 g5 g6 g7 g8 g10 g11 g12 g13 g14 g15 g16 g17 g18 r0 r1 r2 r9 k1 _ _ ls (lv_sub hl [0, 1] rfl) hP hD hS hX
  · rw [if_neg hc4] at hX
    unfold bM_guarded_7 at hX
    refine lv_aload_n hx hb dXM_guarded_7 rfl (lv_at hl 0 rfl) ?_
    refine va_get (D := D) (ci := 1) (v := .ref a1) (C := RXM) (T := TXM) (N := 19) hx hb hts hinU hown hK hP 0 rfl rfl 1 (by decide) (htM _ wM_6) (fun _ h9 => h9) rfl dXM_guarded_8 ?_
    refine lv_iconst (v := 4) hx hb dXM_guarded_11 (by decide +kernel) ?_
    refine bw_ld hx hb hK hP 2 0 rfl rfl 4 (by decide +kernel) (bw_in (by decide +kernel)) dXM_guarded_12 ?_
    refine lv_if_ne (tgt := 53) hx hb dXM_guarded_13 (by decide) (fun hc13 => ?_) (fun hc13 => ?_)
    · rw [if_neg hc13] at hX
      exact J53 g3 g4 g5 g6 g7 g8 g10 g11 g12 g13 g14 g15 g16 g17 g18 r0 r1 r2 r9 k1 _ _ ls (lv_sub hl [0, 1] rfl) hP hD hS hX
    · rw [if_pos hc13] at hX
      unfold bM_guarded_16 at hX
      refine lv_aload_n hx hb dXM_guarded_16 rfl (lv_at hl 0 rfl) ?_
      refine lv_aload_n hx hb dXM_guarded_17 rfl (lv_at hl 0 rfl) ?_
      refine va_get (D := D) (ci := 1) (v := .ref a1) (C := RXM) (T := TXM) (N := 19) hx hb hts hinU hown hK hP 0 rfl rfl 1 (by decide) (htM _ wM_6) (fun _ h9 => h9) rfl dXM_guarded_18 ?_
      refine lv_iconst (v := 0) hx hb dXM_guarded_21 (by decide +kernel) ?_
      refine bw_ld hx hb hK hP 2 0 rfl rfl 0 (by decide +kernel) (bw_in (by decide +kernel)) dXM_guarded_22 ?_
      refine lv_sipush (v := (-350)) hx hb dXM_guarded_23 (by decide +kernel) ?_
      refine lv_sipush (v := 250) hx hb dXM_guarded_26 (by decide +kernel) ?_
      refine bw_Vi (wr := []) (As := [.int (r1 0), .int ((-350)), .int 250]) (rest := []) ⟨hx, hb, hml, hown, hts⟩ (ctM_outside l D cI h0 a0 a1 a2 a9 _ g3 g4 g5 g6 g7 g8 g10 g11 g12 g13 g14 g15 g16 g17 g18 r0 r1 r2 r9 (r1 0) ((-350)) 250) (cwV 3 hts gXM_guarded_XM_outside rfl rfl rfl (by decide +kernel) ⟨Nat.le_of_ble_eq_true rfl, Nat.le_of_ble_eq_true rfl⟩) hK hP hD hS hA (fun _ _ _ _ h => h) (fun _ _ _ => trivial) 0 rfl rfl rfl hl.1 rfl (Nat.le_of_ble_eq_true rfl) dXM_guarded_29 ⟨Nat.le_of_ble_eq_true rfl, Nat.le_of_ble_eq_true rfl⟩ (fun q2 u H locs hu hP hD hS => ?_)
      obtain ⟨hr1, rfl⟩ := hu
      subst hr1
      have hP : va_P D vwC2 (wdM cI h0 a0 a1 a2 a9 g3 g4 g5 g6 g7 g8 g10 g11 g12 g13 g14 g15 g16 g17 g18 r0 r1 r2 r9) H := hP
      have hD : va_D A (wdM cI h0 a0 a1 a2 a9 g3 g4 g5 g6 g7 g8 g10 g11 g12 g13 g14 g15 g16 g17 g18 r0 r1 r2 r9) := hD
      refine lv_if_ne (tgt := 53) hx hb dXM_guarded_32 (by decide) (fun hc32 => ?_) (fun hc32 => ?_)
      · rw [if_neg hc32] at hX
        exact J53 g3 g4 g5 g6 g7 g8 g10 g11 g12 g13 g14 g15 g16 g17 g18 r0 r1 r2 r9 k1 _ _ ls (lv_sub hl [0, 1] rfl) hP hD hS hX
      · rw [if_pos hc32] at hX
        unfold bM_guarded_35 at hX
        refine lv_aload_n hx hb dXM_guarded_35 rfl (lv_at hl 0 rfl) ?_
        refine lv_aload_n hx hb dXM_guarded_36 rfl (lv_at hl 0 rfl) ?_
        refine va_get (D := D) (ci := 1) (v := .ref a1) (C := RXM) (T := TXM) (N := 19) hx hb hts hinU hown hK hP 0 rfl rfl 1 (by decide) (htM _ wM_6) (fun _ h9 => h9) rfl dXM_guarded_37 ?_
        refine lv_iconst (v := 1) hx hb dXM_guarded_40 (by decide +kernel) ?_
        refine bw_ld hx hb hK hP 2 0 rfl rfl 1 (by decide +kernel) (bw_in (by decide +kernel)) dXM_guarded_41 ?_
        refine lv_bipush (v := (-50)) hx hb dXM_guarded_42 (by decide +kernel) ?_
        refine lv_sipush (v := 450) hx hb dXM_guarded_44 (by decide +kernel) ?_
        refine bw_Vi (wr := []) (As := [.int (r1 1), .int ((-50)), .int 450]) (rest := []) ⟨hx, hb, hml, hown, hts⟩ (ctM_outside l D cI h0 a0 a1 a2 a9 _ g3 g4 g5 g6 g7 g8 g10 g11 g12 g13 g14 g15 g16 g17 g18 r0 r1 r2 r9 (r1 1) ((-50)) 450) (cwV 3 hts gXM_guarded_XM_outside rfl rfl rfl (by decide +kernel) ⟨Nat.le_of_ble_eq_true rfl, Nat.le_of_ble_eq_true rfl⟩) hK hP hD hS hA (fun _ _ _ _ h => h) (fun _ _ _ => trivial) 0 rfl rfl rfl hl.1 rfl (Nat.le_of_ble_eq_true rfl) dXM_guarded_47 ⟨Nat.le_of_ble_eq_true rfl, Nat.le_of_ble_eq_true rfl⟩ (fun q3 u H locs hu hP hD hS => ?_)
        obtain ⟨hr1, rfl⟩ := hu
        subst hr1
        have hP : va_P D vwC2 (wdM cI h0 a0 a1 a2 a9 g3 g4 g5 g6 g7 g8 g10 g11 g12 g13 g14 g15 g16 g17 g18 r0 r1 r2 r9) H := hP
        have hD : va_D A (wdM cI h0 a0 a1 a2 a9 g3 g4 g5 g6 g7 g8 g10 g11 g12 g13 g14 g15 g16 g17 g18 r0 r1 r2 r9) := hD
        refine lv_if_eq (tgt := 57) hx hb dXM_guarded_50 (by decide) (fun hc50 => ?_) (fun hc50 => ?_)
        · rw [if_pos hc50] at hX
          exact J57 g3 g4 g5 g6 g7 g8 g10 g11 g12 g13 g14 g15 g16 g17 g18 r0 r1 r2 r9 k1 _ _ ls (lv_sub hl [0, 1] rfl) hP hD hS hX
        · rw [if_neg hc50] at hX
          exact J53 g3 g4 g5 g6 g7 g8 g10 g11 g12 g13 g14 g15 g16 g17 g18 r0 r1 r2 r9 k1 _ _ ls (lv_sub hl [0, 1] rfl) hP hD hS hX
