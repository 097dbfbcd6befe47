abbrev rmM_next : Room := { frames := 1, cells := 0, slots := 0, locals := 21 }
set_option maxHeartbeats 4000000 in
set_option maxRecDepth 100000 in
theorem ctM_next (l : Launch) (D : va_G) (cI : ClassId) (h0 a0 a1 a2 a9 sz : Nat) (g3 g4 g5 g6 g7 g8 g10 g11 g12 g13 g14 g15 g16 g17 g18 : Int32) (r0 r1 r2 r9 : Nat → Int32)   : Met l yXM_next wsXM_next rmM_next (va_Pc [.ref h0] (bw_pr D vwC2 [(cI, .int)] (wdM cI h0 a0 a1 a2 a9 g3 g4 g5 g6 g7 g8 g10 g11 g12 g13 g14 g15 g16 g17 g18 r0 r1 r2 r9) sz (fun _ => True))) (va_Qi (fun r u => (r, u) = sM_next g3 g4 g5 g6 g7 g8 g10 g11 g12 g13 g14 g15 g16 g17 g18 r0 r1 r2 r9) (bw_at D vwC2 [(cI, .int)] (wfM cI h0 a0 a1 a2 a9) (va_A (wdM cI h0 a0 a1 a2 a9 g3 g4 g5 g6 g7 g8 g10 g11 g12 g13 g14 g15 g16 g17 g18 r0 r1 r2 r9) sz)) (va_A (wdM cI h0 a0 a1 a2 a9 g3 g4 g5 g6 g7 g8 g10 g11 g12 g13 g14 g15 g16 g17 g18 r0 r1 r2 r9) sz)) 0 0 (va_A (wdM cI h0 a0 a1 a2 a9 g3 g4 g5 g6 g7 g8 g10 g11 g12 g13 g14 g15 g16 g17 g18 r0 r1 r2 r9) sz) := by
  refine Met.ofW (cc := cXM_next) (maxL := 2) (ret := (some .int)) (by decide) rfl ?_
  intro p e s m args below meth c s₁ B hml hv
  obtain ⟨rfl, hsz, hP, hK, hD0, hT⟩ := hv
  have hx := B.exec
  have hb := B.bytes
  have hr := B.returns
  have hts := atoms_spec (ws := wsXM_next) B.pre
  have hown : s.vm.findClass RXM = some m.cls := findClass_of_methodNamed B.named
  have hlocks := B.notSynchronized
  subst hsz
  have hD := hD0.self (sz := s.heap.size)
  generalize hAe : va_A (wdM cI h0 a0 a1 a2 a9 g3 g4 g5 g6 g7 g8 g10 g11 g12 g13 g14 g15 g16 g17 g18 r0 r1 r2 r9) s.heap.size = A at hD hT ⊢
  have hA : ∀ q : Nat, s.heap.size ≤ q → A q := fun q h => by rw [← hAe]; exact Or.inr h
  have hS : va_S A s.heap s.heap [] := va_S.rf
  have hl := lv_entry ([.ref h0]) (n := 2) (Nat.le_of_ble_eq_true rfl)
  rw [lg_entry_eq]
  generalize (lg_sl ([.ref h0]) ++ List.replicate (2 - (lg_sl ([.ref h0])).length) Slot.unset).toArray = ls at hl ⊢
  have hl : lv_has ls 2 [(0, .ref h0)] := hl
  generalize hX : sM_next g3 g4 g5 g6 g7 g8 g10 g11 g12 g13 g14 g15 g16 g17 g18 r0 r1 r2 r9 = X
  refine bw_Q (fun Q hQ => ?_)
  have hinU : ∀ w ∈ wsXM0, w ∈ wsXM_next := fun w h => List.mem_cons_of_mem _ (List.mem_append_right _ h)
  have htM := fun w h => hts w (List.mem_cons_of_mem _ (List.mem_append_left _ h))
  have J180 : ∀ (g3 g4 g5 g6 g7 g8 g10 g11 g12 g13 g14 g15 g16 g17 g18 : Int32) (r0 r1 r2 r9 : Nat → Int32) (y0 : Int32) (H : Heap) (locs : List Loc) (ls : Array Slot), lv_has ls 2 [(0, .ref h0)] → va_P D vwC2 (wdM cI h0 a0 a1 a2 a9 g3 g4 g5 g6 g7 g8 g10 g11 g12 g13 g14 g15 g16 g17 g18 r0 r1 r2 r9) H → va_D A (wdM cI h0 a0 a1 a2 a9 g3 g4 g5 g6 g7 g8 g10 g11 g12 g13 g14 g15 g16 g17 g18 r0 r1 r2 r9) → va_S A s.heap H locs → bM_next_180 g3 g4 g5 g6 g7 g8 g10 g11 g12 g13 g14 g15 g16 g17 g18 r0 r1 r2 r9 y0 = X → W p l e (headSpec wsXM_next rmM_next).room s m ([.ref h0] : List Value).toArray below meth c H locs 0 0 Q (F0 m 180 ls [.int y0, .ref h0]) := by
    intro g3 g4 g5 g6 g7 g8 g10 g11 g12 g13 g14 g15 g16 g17 g18 r0 r1 r2 r9 y0 H locs ls hl hP hD hS hX
    unfold bM_next_180 at hX
    refine bw_Vv (wr := []) (As := [.int y0]) (rest := []) ⟨hx, hb, hml, hown, hts⟩ (ctM_enter l D cI h0 a0 a1 a2 a9 _ g3 g4 g5 g6 g7 g8 g10 g11 g12 g13 g14 g15 g16 g17 g18 r0 r1 r2 r9 y0) (cwV 1 hts gXM_next_XM_enter rfl rfl rfl (by decide +kernel) ⟨Nat.le_of_ble_eq_true rfl, Nat.le_of_ble_eq_true rfl⟩) hK hP hD hS hA (fun _ _ _ _ h => h) (fun _ _ _ => trivial) 0 rfl rfl rfl hl.1 rfl (Nat.le_of_ble_eq_true rfl) dXM_next_180 ⟨Nat.le_of_ble_eq_true rfl, Nat.le_of_ble_eq_true rfl⟩ (fun u H locs hu hP hD hS => ?_)
    obtain ⟨g3c1, g4c1, g5c1, g6c1, g7c1, g8c1, g10c1, g11c1, g12c1, g13c1, g14c1, g15c1, g16c1, g17c1, g18c1, r0c1, r1c1, r2c1, r9c1⟩ := u
    have hu1 := hu
    rw [← hu] at hX
    have hP : va_P D vwC2 (wdM cI h0 a0 a1 a2 a9 g3c1 g4c1 g5c1 g6c1 g7c1 g8c1 g10c1 g11c1 g12c1 g13c1 g14c1 g15c1 g16c1 g17c1 g18c1 r0c1 r1c1 r2c1 r9c1) H := hP
    have hD : va_D A (wdM cI h0 a0 a1 a2 a9 g3c1 g4c1 g5c1 g6c1 g7c1 g8c1 g10c1 g11c1 g12c1 g13c1 g14c1 g15c1 g16c1 g17c1 g18c1 r0c1 r1c1 r2c1 r9c1) := hD
    have hX : bM_next_183 g3c1 g4c1 g5c1 g6c1 g7c1 g8c1 g10c1 g11c1 g12c1 g13c1 g14c1 g15c1 g16c1 g17c1 g18c1 r0c1 r1c1 r2c1 r9c1 = X := hX
    unfold bM_next_183 at hX
    refine lv_aload_n hx hb dXM_next_183 rfl (lv_at hl 0 rfl) ?_
    refine va_get (D := D) (ci := 1) (v := .int g3c1) (C := RXM) (T := TXM) (N := 19) hx hb hts hinU hown hK hP 0 rfl rfl 3 (by decide) (htM _ wM_8) (fun _ h9 => h9) rfl dXM_next_184 ?_
    subst hQ
    exact W.iret (v := g3c1) hx hb hr (fun t ht hW => ⟨⟨g3c1, (g3c1, g4c1, g5c1, g6c1, g7c1, g8c1, g10c1, g11c1, g12c1, g13c1, g14c1, g15c1, g16c1, g17c1, g18c1, r0c1, r1c1, r2c1, r9c1), rfl, hX, by rw [ht]; exact hP, va_K.moved hW.alike hK, hD⟩, hS.F ht⟩) hS.2.2 dXM_next_187
  have J154 : ∀ (g3 g4 g5 g6 g7 g8 g10 g11 g12 g13 g14 g15 g16 g17 g18 : Int32) (r0 r1 r2 r9 : Nat → Int32) (x1 : Int32) (H : Heap) (locs : List Loc) (ls : Array Slot), lv_has ls 2 [(0, .ref h0), (1, .int x1)] → va_P D vwC2 (wdM cI h0 a0 a1 a2 a9 g3 g4 g5 g6 g7 g8 g10 g11 g12 g13 g14 g15 g16 g17 g18 r0 r1 r2 r9) H → va_D A (wdM cI h0 a0 a1 a2 a9 g3 g4 g5 g6 g7 g8 g10 g11 g12 g13 g14 g15 g16 g17 g18 r0 r1 r2 r9) → va_S A s.heap H locs → bM_next_154 g3 g4 g5 g6 g7 g8 g10 g11 g12 g13 g14 g15 g16 g17 g18 r0 r1 r2 r9 x1 = X → W p l e (headSpec wsXM_next rmM_next).room s m ([.ref h0] : List Value).toArray below meth c H locs 0 0 Q (F0 m 154 ls []) := by
    intro g3 g4 g5 g6 g7 g8 g10 g11 g12 g13 g14 g15 g16 g17 g18 r0 r1 r2 r9 x1 H locs ls hl hP hD hS hX
    unfold bM_next_154 at hX
    refine lv_iload_n hx hb dXM_next_154 rfl (lv_at hl 1 rfl) ?_
    refine lv_if_ne (tgt := 160) hx hb dXM_next_155 (by decide) (fun hc155 => ?_) (fun hc155 => ?_)
    · rw [if_neg hc155] at hX
      unfold bM_next_160 at hX
      refine lv_aload_n hx hb dXM_next_160 rfl (lv_at hl 0 rfl) ?_
      refine lv_aload_n hx hb dXM_next_161 rfl (lv_at hl 0 rfl) ?_
      refine va_get (D := D) (ci := 1) (v := .int g3) (C := RXM) (T := TXM) (N := 19) hx hb hts hinU hown hK hP 0 rfl rfl 3 (by decide) (htM _ wM_8) (fun _ h9 => h9) rfl dXM_next_162 ?_
      refine lv_bipush (v := 6) hx hb dXM_next_165 (by decide +kernel) ?_
      refine lv_icmp_ne (tgt := 174) hx hb dXM_next_167 (by decide) (fun hc167 => ?_) (fun hc167 => ?_)
      · rw [if_neg hc167] at hX
        unfold bM_next_174 at hX
        refine lv_aload_n hx hb dXM_next_174 rfl (lv_at hl 0 rfl) ?_
        refine va_get (D := D) (ci := 1) (v := .int g3) (C := RXM) (T := TXM) (N := 19) hx hb hts hinU hown hK hP 0 rfl rfl 3 (by decide) (htM _ wM_8) (fun _ h9 => h9) rfl dXM_next_175 ?_
        refine lv_iconst (v := 1) hx hb dXM_next_178 (by decide +kernel) ?_
        refine lv_iadd hx hb dXM_next_179 ?_
        exact J180 g3 g4 g5 g6 g7 g8 g10 g11 g12 g13 g14 g15 g16 g17 g18 r0 r1 r2 r9 (g3 + 1) _ _ ls (lv_sub hl [0] rfl) hP hD hS hX
      · rw [if_pos hc167] at hX
        unfold bM_next_170 at hX
        refine lv_iconst (v := 0) hx hb dXM_next_170 (by decide +kernel) ?_
        refine lv_goto (tgt := 180) hx hb dXM_next_171 (by decide) ?_
        exact J180 g3 g4 g5 g6 g7 g8 g10 g11 g12 g13 g14 g15 g16 g17 g18 r0 r1 r2 r9 0 _ _ ls (lv_sub hl [0] rfl) hP hD hS hX
    · rw [if_pos hc155] at hX
      unfold bM_next_158 at hX
      refine lv_iconst (v := (-1)) hx hb dXM_next_158 (by decide +kernel) ?_
      subst hQ
      exact W.iret (v := (-1)) hx hb hr (fun t ht hW => ⟨⟨(-1), (g3, g4, g5, g6, g7, g8, g10, g11, g12, g13, g14, g15, g16, g17, g18, r0, r1, r2, r9), rfl, hX, by rw [ht]; exact hP, va_K.moved hW.alike hK, hD⟩, hS.F ht⟩) hS.2.2 dXM_next_159
  have J153 : ∀ (g3 g4 g5 g6 g7 g8 g10 g11 g12 g13 g14 g15 g16 g17 g18 : Int32) (r0 r1 r2 r9 : Nat → Int32) (y0 : Int32) (H : Heap) (locs : List Loc) (ls : Array Slot), lv_has ls 2 [(0, .ref h0)] → va_P D vwC2 (wdM cI h0 a0 a1 a2 a9 g3 g4 g5 g6 g7 g8 g10 g11 g12 g13 g14 g15 g16 g17 g18 r0 r1 r2 r9) H → va_D A (wdM cI h0 a0 a1 a2 a9 g3 g4 g5 g6 g7 g8 g10 g11 g12 g13 g14 g15 g16 g17 g18 r0 r1 r2 r9) → va_S A s.heap H locs → bM_next_153 g3 g4 g5 g6 g7 g8 g10 g11 g12 g13 g14 g15 g16 g17 g18 r0 r1 r2 r9 y0 = X → W p l e (headSpec wsXM_next rmM_next).room s m ([.ref h0] : List Value).toArray below meth c H locs 0 0 Q (F0 m 153 ls [.int y0]) := by
    intro g3 g4 g5 g6 g7 g8 g10 g11 g12 g13 g14 g15 g16 g17 g18 r0 r1 r2 r9 y0 H locs ls hl hP hD hS hX
    unfold bM_next_153 at hX
    refine lv_istore_n (lv' := [(1, .int y0), (0, .ref h0)]) hx hb dXM_next_153 rfl hl (by decide) rfl (fun ls hl => ?_)
    exact J154 g3 g4 g5 g6 g7 g8 g10 g11 g12 g13 g14 g15 g16 g17 g18 r0 r1 r2 r9 y0 _ _ ls (lv_sub hl [1, 0] rfl) hP hD hS hX
  have J131 : ∀ (g3 g4 g5 g6 g7 g8 g10 g11 g12 g13 g14 g15 g16 g17 g18 : Int32) (r0 r1 r2 r9 : Nat → Int32) (x1 : Int32) (H : Heap) (locs : List Loc) (ls : Array Slot), lv_has ls 2 [(0, .ref h0), (1, .int x1)] → va_P D vwC2 (wdM cI h0 a0 a1 a2 a9 g3 g4 g5 g6 g7 g8 g10 g11 g12 g13 g14 g15 g16 g17 g18 r0 r1 r2 r9) H → va_D A (wdM cI h0 a0 a1 a2 a9 g3 g4 g5 g6 g7 g8 g10 g11 g12 g13 g14 g15 g16 g17 g18 r0 r1 r2 r9) → va_S A s.heap H locs → bM_next_131 g3 g4 g5 g6 g7 g8 g10 g11 g12 g13 g14 g15 g16 g17 g18 r0 r1 r2 r9 x1 = X → W p l e (headSpec wsXM_next rmM_next).room s m ([.ref h0] : List Value).toArray below meth c H locs 0 0 Q (F0 m 131 ls []) := by
    intro g3 g4 g5 g6 g7 g8 g10 g11 g12 g13 g14 g15 g16 g17 g18 r0 r1 r2 r9 x1 H locs ls hl hP hD hS hX
    unfold bM_next_131 at hX
    refine lv_aload_n hx hb dXM_next_131 rfl (lv_at hl 0 rfl) ?_
    refine va_get (D := D) (ci := 1) (v := .int g3) (C := RXM) (T := TXM) (N := 19) hx hb hts hinU hown hK hP 0 rfl rfl 3 (by decide) (htM _ wM_8) (fun _ h9 => h9) rfl dXM_next_132 ?_
    refine lv_iconst (v := 5) hx hb dXM_next_135 (by decide +kernel) ?_
    refine lv_icmp_ne (tgt := 154) hx hb dXM_next_136 (by decide) (fun hc136 => ?_) (fun hc136 => ?_)
    · rw [if_neg hc136] at hX
      exact J154 g3 g4 g5 g6 g7 g8 g10 g11 g12 g13 g14 g15 g16 g17 g18 r0 r1 r2 r9 x1 _ _ ls (lv_sub hl [0, 1] rfl) hP hD hS hX
    · rw [if_pos hc136] at hX
      unfold bM_next_139 at hX
      refine lv_aload_n hx hb dXM_next_139 rfl (lv_at hl 0 rfl) ?_
      refine va_get (D := D) (ci := 1) (v := .int g18) (C := RXM) (T := TXM) (N := 19) hx hb hts hinU hown hK hP 0 rfl rfl 18 (by decide) (htM _ wM_23) (fun _ h9 => h9) rfl dXM_next_140 ?_
      refine lv_bipush (v := 30) hx hb dXM_next_143 (by decide +kernel) ?_
      refine lv_icmp_lt (tgt := 152) hx hb dXM_next_145 (by decide) (fun hc145 => ?_) (fun hc145 => ?_)
      · rw [if_pos hc145] at hX
        unfold bM_next_152 at hX
        refine lv_iconst (v := 0) hx hb dXM_next_152 (by decide +kernel) ?_
        exact J153 g3 g4 g5 g6 g7 g8 g10 g11 g12 g13 g14 g15 g16 g17 g18 r0 r1 r2 r9 0 _ _ ls (lv_sub hl [0] rfl) hP hD hS hX
      · rw [if_neg hc145] at hX
        unfold bM_next_148 at hX
        refine lv_iconst (v := 1) hx hb dXM_next_148 (by decide +kernel) ?_
        refine lv_goto (tgt := 153) hx hb dXM_next_149 (by decide) ?_
        exact J153 g3 g4 g5 g6 g7 g8 g10 g11 g12 g13 g14 g15 g16 g17 g18 r0 r1 r2 r9 1 _ _ ls (lv_sub hl [0] rfl) hP hD hS hX
  have J130 : ∀ (g3 g4 g5 g6 g7 g8 g10 g11 g12 g13 g14 g15 g16 g17 g18 : Int32) (r0 r1 r2 r9 : Nat → Int32) (y0 : Int32) (H : Heap) (locs : List Loc) (ls : Array Slot), lv_has ls 2 [(0, .ref h0)] → va_P D vwC2 (wdM cI h0 a0 a1 a2 a9 g3 g4 g5 g6 g7 g8 g10 g11 g12 g13 g14 g15 g16 g17 g18 r0 r1 r2 r9) H → va_D A (wdM cI h0 a0 a1 a2 a9 g3 g4 g5 g6 g7 g8 g10 g11 g12 g13 g14 g15 g16 g17 g18 r0 r1 r2 r9) → va_S A s.heap H locs → bM_next_130 g3 g4 g5 g6 g7 g8 g10 g11 g12 g13 g14 g15 g16 g17 g18 r0 r1 r2 r9 y0 = X → W p l e (headSpec wsXM_next rmM_next).room s m ([.ref h0] : List Value).toArray below meth c H locs 0 0 Q (F0 m 130 ls [.int y0]) := by
    intro g3 g4 g5 g6 g7 g8 g10 g11 g12 g13 g14 g15 g16 g17 g18 r0 r1 r2 r9 y0 H locs ls hl hP hD hS hX
    unfold bM_next_130 at hX
    refine lv_istore_n (lv' := [(1, .int y0), (0, .ref h0)]) hx hb dXM_next_130 rfl hl (by decide) rfl (fun ls hl => ?_)
    exact J131 g3 g4 g5 g6 g7 g8 g10 g11 g12 g13 g14 g15 g16 g17 g18 r0 r1 r2 r9 y0 _ _ ls (lv_sub hl [1, 0] rfl) hP hD hS hX
  have J108 : ∀ (g3 g4 g5 g6 g7 g8 g10 g11 g12 g13 g14 g15 g16 g17 g18 : Int32) (r0 r1 r2 r9 : Nat → Int32) (x1 : Int32) (H : Heap) (locs : List Loc) (ls : Array Slot), lv_has ls 2 [(0, .ref h0), (1, .int x1)] → va_P D vwC2 (wdM cI h0 a0 a1 a2 a9 g3 g4 g5 g6 g7 g8 g10 g11 g12 g13 g14 g15 g16 g17 g18 r0 r1 r2 r9) H → va_D A (wdM cI h0 a0 a1 a2 a9 g3 g4 g5 g6 g7 g8 g10 g11 g12 g13 g14 g15 g16 g17 g18 r0 r1 r2 r9) → va_S A s.heap H locs → bM_next_108 g3 g4 g5 g6 g7 g8 g10 g11 g12 g13 g14 g15 g16 g17 g18 r0 r1 r2 r9 x1 = X → W p l e (headSpec wsXM_next rmM_next).room s m ([.ref h0] : List Value).toArray below meth c H locs 0 0 Q (F0 m 108 ls []) := by
    intro g3 g4 g5 g6 g7 g8 g10 g11 g12 g13 g14 g15 g16 g17 g18 r0 r1 r2 r9 x1 H locs ls hl hP hD hS hX
    unfold bM_next_108 at hX
    refine lv_aload_n hx hb dXM_next_108 rfl (lv_at hl 0 rfl) ?_
    refine va_get (D := D) (ci := 1) (v := .int g3) (C := RXM) (T := TXM) (N := 19) hx hb hts hinU hown hK hP 0 rfl rfl 3 (by decide) (htM _ wM_8) (fun _ h9 => h9) rfl dXM_next_109 ?_
    refine lv_iconst (v := 4) hx hb dXM_next_112 (by decide +kernel) ?_
    refine lv_icmp_ne (tgt := 131) hx hb dXM_next_113 (by decide) (fun hc113 => ?_) (fun hc113 => ?_)
    · rw [if_neg hc113] at hX
      exact J131 g3 g4 g5 g6 g7 g8 g10 g11 g12 g13 g14 g15 g16 g17 g18 r0 r1 r2 r9 x1 _ _ ls (lv_sub hl [0, 1] rfl) hP hD hS hX
    · rw [if_pos hc113] at hX
      unfold bM_next_116 at hX
      refine lv_aload_n hx hb dXM_next_116 rfl (lv_at hl 0 rfl) ?_
      refine va_get (D := D) (ci := 1) (v := .int g18) (C := RXM) (T := TXM) (N := 19) hx hb hts hinU hown hK hP 0 rfl rfl 18 (by decide) (htM _ wM_23) (fun _ h9 => h9) rfl dXM_next_117 ?_
      refine lv_bipush (v := 50) hx hb dXM_next_120 (by decide +kernel) ?_
      refine lv_icmp_lt (tgt := 129) hx hb dXM_next_122 (by decide) (fun hc122 => ?_) (fun hc122 => ?_)
      · rw [if_pos hc122] at hX
        unfold bM_next_129 at hX
        refine lv_iconst (v := 0) hx hb dXM_next_129 (by decide +kernel) ?_
        exact J130 g3 g4 g5 g6 g7 g8 g10 g11 g12 g13 g14 g15 g16 g17 g18 r0 r1 r2 r9 0 _ _ ls (lv_sub hl [0] rfl) hP hD hS hX
      · rw [if_neg hc122] at hX
        unfold bM_next_125 at hX
        refine lv_iconst (v := 1) hx hb dXM_next_125 (by decide +kernel) ?_
        refine lv_goto (tgt := 130) hx hb dXM_next_126 (by decide) ?_
        exact J130 g3 g4 g5 g6 g7 g8 g10 g11 g12 g13 g14 g15 g16 g17 g18 r0 r1 r2 r9 1 _ _ ls (lv_sub hl [0] rfl) hP hD hS hX
  have J107 : ∀ (g3 g4 g5 g6 g7 g8 g10 g11 g12 g13 g14 g15 g16 g17 g18 : Int32) (r0 r1 r2 r9 : Nat → Int32) (y0 : Int32) (H : Heap) (locs : List Loc) (ls : Array Slot), lv_has ls 2 [(0, .ref h0)] → va_P D vwC2 (wdM cI h0 a0 a1 a2 a9 g3 g4 g5 g6 g7 g8 g10 g11 g12 g13 g14 g15 g16 g17 g18 r0 r1 r2 r9) H → va_D A (wdM cI h0 a0 a1 a2 a9 g3 g4 g5 g6 g7 g8 g10 g11 g12 g13 g14 g15 g16 g17 g18 r0 r1 r2 r9) → va_S A s.heap H locs → bM_next_107 g3 g4 g5 g6 g7 g8 g10 g11 g12 g13 g14 g15 g16 g17 g18 r0 r1 r2 r9 y0 = X → W p l e (headSpec wsXM_next rmM_next).room s m ([.ref h0] : List Value).toArray below meth c H locs 0 0 Q (F0 m 107 ls [.int y0]) := by
    intro g3 g4 g5 g6 g7 g8 g10 g11 g12 g13 g14 g15 g16 g17 g18 r0 r1 r2 r9 y0 H locs ls hl hP hD hS hX
    unfold bM_next_107 at hX
    refine lv_istore_n (lv' := [(1, .int y0), (0, .ref h0)]) hx hb dXM_next_107 rfl hl (by decide) rfl (fun ls hl => ?_)
    exact J108 g3 g4 g5 g6 g7 g8 g10 g11 g12 g13 g14 g15 g16 g17 g18 r0 r1 r2 r9 y0 _ _ ls (lv_sub hl [1, 0] rfl) hP hD hS hX
  have J87 : ∀ (g3 g4 g5 g6 g7 g8 g10 g11 g12 g13 g14 g15 g16 g17 g18 : Int32) (r0 r1 r2 r9 : Nat → Int32) (x1 : Int32) (H : Heap) (locs : List Loc) (ls : Array Slot), lv_has ls 2 [(0, .ref h0), (1, .int x1)] → va_P D vwC2 (wdM cI h0 a0 a1 a2 a9 g3 g4 g5 g6 g7 g8 g10 g11 g12 g13 g14 g15 g16 g17 g18 r0 r1 r2 r9) H → va_D A (wdM cI h0 a0 a1 a2 a9 g3 g4 g5 g6 g7 g8 g10 g11 g12 g13 g14 g15 g16 g17 g18 r0 r1 r2 r9) → va_S A s.heap H locs → bM_next_87 g3 g4 g5 g6 g7 g8 g10 g11 g12 g13 g14 g15 g16 g17 g18 r0 r1 r2 r9 x1 = X → W p l e (headSpec wsXM_next rmM_next).room s m ([.ref h0] : List Value).toArray below meth c H locs 0 0 Q (F0 m 87 ls []) := by
    intro g3 g4 g5 g6 g7 g8 g10 g11 g12 g13 g14 g15 g16 g17 g18 r0 r1 r2 r9 x1 H locs ls hl hP hD hS hX
    unfold bM_next_87 at hX
    refine lv_aload_n hx hb dXM_next_87 rfl (lv_at hl 0 rfl) ?_
    refine va_get (D := D) (ci := 1) (v := .int g3) (C := RXM) (T := TXM) (N := 19) hx hb hts hinU hown hK hP 0 rfl rfl 3 (by decide) (htM _ wM_8) (fun _ h9 => h9) rfl dXM_next_88 ?_
    refine lv_iconst (v := 2) hx hb dXM_next_91 (by decide +kernel) ?_
    refine lv_icmp_ne (tgt := 108) hx hb dXM_next_92 (by decide) (fun hc92 => ?_) (fun hc92 => ?_)
    · rw [if_neg hc92] at hX
      exact J108 g3 g4 g5 g6 g7 g8 g10 g11 g12 g13 g14 g15 g16 g17 g18 r0 r1 r2 r9 x1 _ _ ls (lv_sub hl [0, 1] rfl) hP hD hS hX
    · rw [if_pos hc92] at hX
      unfold bM_next_95 at hX
      refine lv_aload_n hx hb dXM_next_95 rfl (lv_at hl 0 rfl) ?_
      refine va_get (D := D) (ci := 1) (v := .int g4) (C := RXM) (T := TXM) (N := 19) hx hb hts hinU hown hK hP 0 rfl rfl 4 (by decide) (htM _ wM_9) (fun _ h9 => h9) rfl dXM_next_96 ?_
      refine lv_if_ne (tgt := 106) hx hb dXM_next_99 (by decide) (fun hc99 => ?_) (fun hc99 => ?_)
      · rw [if_neg hc99] at hX
        unfold bM_next_106 at hX
        refine lv_iconst (v := 0) hx hb dXM_next_106 (by decide +kernel) ?_
        exact J107 g3 g4 g5 g6 g7 g8 g10 g11 g12 g13 g14 g15 g16 g17 g18 r0 r1 r2 r9 0 _ _ ls (lv_sub hl [0] rfl) hP hD hS hX
      · rw [if_pos hc99] at hX
        unfold bM_next_102 at hX
        refine lv_iconst (v := 1) hx hb dXM_next_102 (by decide +kernel) ?_
        refine lv_goto (tgt := 107) hx hb dXM_next_103 (by decide) ?_
        exact J107 g3 g4 g5 g6 g7 g8 g10 g11 g12 g13 g14 g15 g16 g17 g18 r0 r1 r2 r9 1 _ _ ls (lv_sub hl [0] rfl) hP hD hS hX
  have J86 : ∀ (g3 g4 g5 g6 g7 g8 g10 g11 g12 g13 g14 g15 g16 g17 g18 : Int32) (r0 r1 r2 r9 : Nat → Int32) (y0 : Int32) (H : Heap) (locs : List Loc) (ls : Array Slot), lv_has ls 2 [(0, .ref h0)] → va_P D vwC2 (wdM cI h0 a0 a1 a2 a9 g3 g4 g5 g6 g7 g8 g10 g11 g12 g13 g14 g15 g16 g17 g18 r0 r1 r2 r9) H → va_D A (wdM cI h0 a0 a1 a2 a9 g3 g4 g5 g6 g7 g8 g10 g11 g12 g13 g14 g15 g16 g17 g18 r0 r1 r2 r9) → va_S A s.heap H locs → bM_next_86 g3 g4 g5 g6 g7 g8 g10 g11 g12 g13 g14 g15 g16 g17 g18 r0 r1 r2 r9 y0 = X → W p l e (headSpec wsXM_next rmM_next).room s m ([.ref h0] : List Value).toArray below meth c H locs 0 0 Q (F0 m 86 ls [.int y0]) := by
    intro g3 g4 g5 g6 g7 g8 g10 g11 g12 g13 g14 g15 g16 g17 g18 r0 r1 r2 r9 y0 H locs ls hl hP hD hS hX
    unfold bM_next_86 at hX
    refine lv_istore_n (lv' := [(1, .int y0), (0, .ref h0)]) hx hb dXM_next_86 rfl hl (by decide) rfl (fun ls hl => ?_)
    exact J87 g3 g4 g5 g6 g7 g8 g10 g11 g12 g13 g14 g15 g16 g17 g18 r0 r1 r2 r9 y0 _ _ ls (lv_sub hl [1, 0] rfl) hP hD hS hX
  have J64 : ∀ (g3 g4 g5 g6 g7 g8 g10 g11 g12 g13 g14 g15 g16 g17 g18 : Int32) (r0 r1 r2 r9 : Nat → Int32) (x1 : Int32) (H : Heap) (locs : List Loc) (ls : Array Slot), lv_has ls 2 [(0, .ref h0), (1, .int x1)] → va_P D vwC2 (wdM cI h0 a0 a1 a2 a9 g3 g4 g5 g6 g7 g8 g10 g11 g12 g13 g14 g15 g16 g17 g18 r0 r1 r2 r9) H → va_D A (wdM cI h0 a0 a1 a2 a9 g3 g4 g5 g6 g7 g8 g10 g11 g12 g13 g14 g15 g16 g17 g18 r0 r1 r2 r9) → va_S A s.heap H locs → bM_next_64 g3 g4 g5 g6 g7 g8 g10 g11 g12 g13 g14 g15 g16 g17 g18 r0 r1 r2 r9 x1 = X → W p l e (headSpec wsXM_next rmM_next).room s m ([.ref h0] : List Value).toArray below meth c H locs 0 0 Q (F0 m 64 ls []) := by
    intro g3 g4 g5 g6 g7 g8 g10 g11 g12 g13 g14 g15 g16 g17 g18 r0 r1 r2 r9 x1 H locs ls hl hP hD hS hX
    unfold bM_next_64 at hX
    refine lv_aload_n hx hb dXM_next_64 rfl (lv_at hl 0 rfl) ?_
    refine va_get (D := D) (ci := 1) (v := .int g3) (C := RXM) (T := TXM) (N := 19) hx hb hts hinU hown hK hP 0 rfl rfl 3 (by decide) (htM _ wM_8) (fun _ h9 => h9) rfl dXM_next_65 ?_
    refine lv_iconst (v := 1) hx hb dXM_next_68 (by decide +kernel) ?_
    refine lv_icmp_ne (tgt := 87) hx hb dXM_next_69 (by decide) (fun hc69 => ?_) (fun hc69 => ?_)
    · rw [if_neg hc69] at hX
      exact J87 g3 g4 g5 g6 g7 g8 g10 g11 g12 g13 g14 g15 g16 g17 g18 r0 r1 r2 r9 x1 _ _ ls (lv_sub hl [0, 1] rfl) hP hD hS hX
    · rw [if_pos hc69] at hX
      unfold bM_next_72 at hX
      refine lv_aload_n hx hb dXM_next_72 rfl (lv_at hl 0 rfl) ?_
      refine va_get (D := D) (ci := 1) (v := .int g18) (C := RXM) (T := TXM) (N := 19) hx hb hts hinU hown hK hP 0 rfl rfl 18 (by decide) (htM _ wM_23) (fun _ h9 => h9) rfl dXM_next_73 ?_
      refine lv_bipush (v := 100) hx hb dXM_next_76 (by decide +kernel) ?_
      refine lv_icmp_lt (tgt := 85) hx hb dXM_next_78 (by decide) (fun hc78 => ?_) (fun hc78 => ?_)
      · rw [if_pos hc78] at hX
        unfold bM_next_85 at hX
        refine lv_iconst (v := 0) hx hb dXM_next_85 (by decide +kernel) ?_
        exact J86 g3 g4 g5 g6 g7 g8 g10 g11 g12 g13 g14 g15 g16 g17 g18 r0 r1 r2 r9 0 _ _ ls (lv_sub hl [0] rfl) hP hD hS hX
      · rw [if_neg hc78] at hX
        unfold bM_next_81 at hX
        refine lv_iconst (v := 1) hx hb dXM_next_81 (by decide +kernel) ?_
        refine lv_goto (tgt := 86) hx hb dXM_next_82 (by decide) ?_
        exact J86 g3 g4 g5 g6 g7 g8 g10 g11 g12 g13 g14 g15 g16 g17 g18 r0 r1 r2 r9 1 _ _ ls (lv_sub hl [0] rfl) hP hD hS hX
  have J63 : ∀ (g3 g4 g5 g6 g7 g8 g10 g11 g12 g13 g14 g15 g16 g17 g18 : Int32) (r0 r1 r2 r9 : Nat → Int32) (y0 : Int32) (H : Heap) (locs : List Loc) (ls : Array Slot), lv_has ls 2 [(0, .ref h0)] → va_P D vwC2 (wdM cI h0 a0 a1 a2 a9 g3 g4 g5 g6 g7 g8 g10 g11 g12 g13 g14 g15 g16 g17 g18 r0 r1 r2 r9) H → va_D A (wdM cI h0 a0 a1 a2 a9 g3 g4 g5 g6 g7 g8 g10 g11 g12 g13 g14 g15 g16 g17 g18 r0 r1 r2 r9) → va_S A s.heap H locs → bM_next_63 g3 g4 g5 g6 g7 g8 g10 g11 g12 g13 g14 g15 g16 g17 g18 r0 r1 r2 r9 y0 = X → W p l e (headSpec wsXM_next rmM_next).room s m ([.ref h0] : List Value).toArray below meth c H locs 0 0 Q (F0 m 63 ls [.int y0]) := by
    intro g3 g4 g5 g6 g7 g8 g10 g11 g12 g13 g14 g15 g16 g17 g18 r0 r1 r2 r9 y0 H locs ls hl hP hD hS hX
    unfold bM_next_63 at hX
    refine lv_istore_n (lv' := [(1, .int y0), (0, .ref h0)]) hx hb dXM_next_63 rfl hl (by decide) rfl (fun ls hl => ?_)
    exact J64 g3 g4 g5 g6 g7 g8 g10 g11 g12 g13 g14 g15 g16 g17 g18 r0 r1 r2 r9 y0 _ _ ls (lv_sub hl [1, 0] rfl) hP hD hS hX
  have J62 : ∀ (g3 g4 g5 g6 g7 g8 g10 g11 g12 g13 g14 g15 g16 g17 g18 : Int32) (r0 r1 r2 r9 : Nat → Int32) (H : Heap) (locs : List Loc) (ls : Array Slot), lv_has ls 2 [(0, .ref h0)] → va_P D vwC2 (wdM cI h0 a0 a1 a2 a9 g3 g4 g5 g6 g7 g8 g10 g11 g12 g13 g14 g15 g16 g17 g18 r0 r1 r2 r9) H → va_D A (wdM cI h0 a0 a1 a2 a9 g3 g4 g5 g6 g7 g8 g10 g11 g12 g13 g14 g15 g16 g17 g18 r0 r1 r2 r9) → va_S A s.heap H locs → bM_next_62 g3 g4 g5 g6 g7 g8 g10 g11 g12 g13 g14 g15 g16 g17 g18 r0 r1 r2 r9 = X → W p l e (headSpec wsXM_next rmM_next).room s m ([.ref h0] : List Value).toArray below meth c H locs 0 0 Q (F0 m 62 ls []) := by
    intro g3 g4 g5 g6 g7 g8 g10 g11 g12 g13 g14 g15 g16 g17 g18 r0 r1 r2 r9 H locs ls hl hP hD hS hX
    unfold bM_next_62 at hX
    refine lv_iconst (v := 0) hx hb dXM_next_62 (by decide +kernel) ?_
    exact J63 g3 g4 g5 g6 g7 g8 g10 g11 g12 g13 g14 g15 g16 g17 g18 r0 r1 r2 r9 0 _ _ ls (lv_sub hl [0] rfl) hP hD hS hX
  have J22 : ∀ (g3 g4 g5 g6 g7 g8 g10 g11 g12 g13 g14 g15 g16 g17 g18 : Int32) (r0 r1 r2 r9 : Nat → Int32) (y0 : Int32) (H : Heap) (locs : List Loc) (ls : Array Slot), lv_has ls 2 [(0, .ref h0)] → va_P D vwC2 (wdM cI h0 a0 a1 a2 a9 g3 g4 g5 g6 g7 g8 g10 g11 g12 g13 g14 g15 g16 g17 g18 r0 r1 r2 r9) H → va_D A (wdM cI h0 a0 a1 a2 a9 g3 g4 g5 g6 g7 g8 g10 g11 g12 g13 g14 g15 g16 g17 g18 r0 r1 r2 r9) → va_S A s.heap H locs → bM_next_22 g3 g4 g5 g6 g7 g8 g10 g11 g12 g13 g14 g15 g16 g17 g18 r0 r1 r2 r9 y0 = X → W p l e (headSpec wsXM_next rmM_next).room s m ([.ref h0] : List Value).toArray below meth c H locs 0 0 Q (F0 m 22 ls [.int y0]) := by
    intro g3 g4 g5 g6 g7 g8 g10 g11 g12 g13 g14 g15 g16 g17 g18 r0 r1 r2 r9 y0 H locs ls hl hP hD hS hX
    unfold bM_next_22 at hX
    refine lv_istore_n (lv' := [(1, .int y0), (0, .ref h0)]) hx hb dXM_next_22 rfl hl (by decide) rfl (fun ls hl => ?_)
    refine lv_aload_n hx hb dXM_next_23 rfl (lv_at hl 1 rfl) ?_
    refine va_get (D := D) (ci := 1) (v := .int g3) (C := RXM) (T := TXM) (N := 19) hx hb hts hinU hown hK hP 0 rfl rfl 3 (by decide) (htM _ wM_8) (fun _ h9 => h9) rfl dXM_next_24 ?_
    refine lv_if_ne (tgt := 64) hx hb dXM_next_27 (by decide) (fun hc27 => ?_) (fun hc27 => ?_)
    · rw [if_neg hc27] at hX
      exact J64 g3 g4 g5 g6 g7 g8 g10 g11 g12 g13 g14 g15 g16 g17 g18 r0 r1 r2 r9 y0 _ _ ls (lv_sub hl [1, 0] rfl) hP hD hS hX
    · rw [if_pos hc27] at hX
      unfold bM_next_30 at hX
      refine lv_aload_n hx hb dXM_next_30 rfl (lv_at hl 1 rfl) ?_
      refine bw_Vi (wr := []) (As := []) (rest := []) ⟨hx, hb, hml, hown, hts⟩ (ctM_consistent l D cI h0 a0 a1 a2 a9 _ g3 g4 g5 g6 g7 g8 g10 g11 g12 g13 g14 g15 g16 g17 g18 r0 r1 r2 r9) (cwV 0 hts gXM_next_XM_consistent rfl rfl rfl (by decide +kernel) ⟨Nat.le_of_ble_eq_true rfl, Nat.le_of_ble_eq_true rfl⟩) hK hP hD hS hA (fun _ _ _ _ h => h) (fun _ _ _ => trivial) 0 rfl rfl rfl hl.1 rfl (Nat.le_of_ble_eq_true rfl) dXM_next_31 ⟨Nat.le_of_ble_eq_true rfl, Nat.le_of_ble_eq_true rfl⟩ (fun q2 u H locs hu hP hD hS => ?_)
      obtain ⟨hr1, rfl⟩ := hu
      subst hr1
      have hP : va_P D vwC2 (wdM cI h0 a0 a1 a2 a9 g3 g4 g5 g6 g7 g8 g10 g11 g12 g13 g14 g15 g16 g17 g18 r0 r1 r2 r9) H := hP
      have hD : va_D A (wdM cI h0 a0 a1 a2 a9 g3 g4 g5 g6 g7 g8 g10 g11 g12 g13 g14 g15 g16 g17 g18 r0 r1 r2 r9) := hD
      refine lv_if_eq (tgt := 62) hx hb dXM_next_34 (by decide) (fun hc34 => ?_) (fun hc34 => ?_)
      · rw [if_pos hc34] at hX
        exact J62 g3 g4 g5 g6 g7 g8 g10 g11 g12 g13 g14 g15 g16 g17 g18 r0 r1 r2 r9 _ _ ls (lv_sub hl [1] rfl) hP hD hS hX
      · rw [if_neg hc34] at hX
        unfold bM_next_37 at hX
        refine lv_aload_n hx hb dXM_next_37 rfl (lv_at hl 1 rfl) ?_
        refine va_get (D := D) (ci := 1) (v := .int g8) (C := RXM) (T := TXM) (N := 19) hx hb hts hinU hown hK hP 0 rfl rfl 8 (by decide) (htM _ wM_13) (fun _ h9 => h9) rfl dXM_next_38 ?_
        refine lv_aload_n hx hb dXM_next_41 rfl (lv_at hl 1 rfl) ?_
        refine va_get (D := D) (ci := 1) (v := .int g13) (C := RXM) (T := TXM) (N := 19) hx hb hts hinU hown hK hP 0 rfl rfl 13 (by decide) (htM _ wM_18) (fun _ h9 => h9) rfl dXM_next_42 ?_
        refine lv_isub hx hb dXM_next_45 ?_
        refine lv_bipush (v := 20) hx hb dXM_next_46 (by decide +kernel) ?_
        refine lv_icmp_lt (tgt := 62) hx hb dXM_next_48 (by decide) (fun hc48 => ?_) (fun hc48 => ?_)
        · rw [if_pos hc48] at hX
          exact J62 g3 g4 g5 g6 g7 g8 g10 g11 g12 g13 g14 g15 g16 g17 g18 r0 r1 r2 r9 _ _ ls (lv_sub hl [1] rfl) hP hD hS hX
        · rw [if_neg hc48] at hX
          unfold bM_next_51 at hX
          refine lv_aload_n hx hb dXM_next_51 rfl (lv_at hl 1 rfl) ?_
          refine va_get (D := D) (ci := 1) (v := .int g4) (C := RXM) (T := TXM) (N := 19) hx hb hts hinU hown hK hP 0 rfl rfl 4 (by decide) (htM _ wM_9) (fun _ h9 => h9) rfl dXM_next_52 ?_
          refine lv_if_ne (tgt := 62) hx hb dXM_next_55 (by decide) (fun hc55 => ?_) (fun hc55 => ?_)
          · rw [if_neg hc55] at hX
            exact J62 g3 g4 g5 g6 g7 g8 g10 g11 g12 g13 g14 g15 g16 g17 g18 r0 r1 r2 r9 _ _ ls (lv_sub hl [1] rfl) hP hD hS hX
          · rw [if_pos hc55] at hX
            unfold bM_next_58 at hX
            refine lv_iconst (v := 1) hx hb dXM_next_58 (by decide +kernel) ?_
            refine lv_goto (tgt := 63) hx hb dXM_next_59 (by decide) ?_
            exact J63 g3 g4 g5 g6 g7 g8 g10 g11 g12 g13 g14 g15 g16 g17 g18 r0 r1 r2 r9 1 _ _ ls (lv_sub hl [1] rfl) hP hD hS hX
  have J17 : ∀ (g3 g4 g5 g6 g7 g8 g10 g11 g12 g13 g14 g15 g16 g17 g18 : Int32) (r0 r1 r2 r9 : Nat → Int32) (H : Heap) (locs : List Loc) (ls : Array Slot), lv_has ls 2 [(0, .ref h0)] → va_P D vwC2 (wdM cI h0 a0 a1 a2 a9 g3 g4 g5 g6 g7 g8 g10 g11 g12 g13 g14 g15 g16 g17 g18 r0 r1 r2 r9) H → va_D A (wdM cI h0 a0 a1 a2 a9 g3 g4 g5 g6 g7 g8 g10 g11 g12 g13 g14 g15 g16 g17 g18 r0 r1 r2 r9) → va_S A s.heap H locs → bM_next_17 g3 g4 g5 g6 g7 g8 g10 g11 g12 g13 g14 g15 g16 g17 g18 r0 r1 r2 r9 = X → W p l e (headSpec wsXM_next rmM_next).room s m ([.ref h0] : List Value).toArray below meth c H locs 0 0 Q (F0 m 17 ls []) := by
    intro g3 g4 g5 g6 g7 g8 g10 g11 g12 g13 g14 g15 g16 g17 g18 r0 r1 r2 r9 H locs ls hl hP hD hS hX
    unfold bM_next_17 at hX
    refine lv_iconst (v := 1) hx hb dXM_next_17 (by decide +kernel) ?_
    refine lv_goto (tgt := 22) hx hb dXM_next_18 (by decide) ?_
    exact J22 g3 g4 g5 g6 g7 g8 g10 g11 g12 g13 g14 g15 g16 g17 g18 r0 r1 r2 r9 1 _ _ ls (lv_sub hl [0] rfl) hP hD hS hX
  unfold sM_next at hX
  unfold bM_next_0 at hX
  refine lv_aload_n hx hb dXM_next_0 rfl (lv_at hl 0 rfl) ?_
  refine va_get (D := D) (ci := 1) (v := .int g3) (C := RXM) (T := TXM) (N := 19) hx hb hts hinU hown hK hP 0 rfl rfl 3 (by decide) (htM _ wM_8) (fun _ h9 => h9) rfl dXM_next_1 ?_
  refine lv_iconst (v := 3) hx hb dXM_next_4 (by decide +kernel) ?_
  refine lv_icmp_eq (tgt := 17) hx hb dXM_next_5 (by decide) (fun hc5 => ?_) (fun hc5 => ?_)
  · rw [if_pos hc5] at hX
    exact J17 g3 g4 g5 g6 g7 g8 g10 g11 g12 g13 g14 g15 g16 g17 g18 r0 r1 r2 r9 _ _ ls (lv_sub hl [0] rfl) hP hD hS hX
  · rw [if_neg hc5] at hX
    unfold bM_next_8 at hX
    refine lv_aload_n hx hb dXM_next_8 rfl (lv_at hl 0 rfl) ?_
    refine va_get (D := D) (ci := 1) (v := .int g3) (C := RXM) (T := TXM) (N := 19) hx hb hts hinU hown hK hP 0 rfl rfl 3 (by decide) (htM _ wM_8) (fun _ h9 => h9) rfl dXM_next_9 ?_
    refine lv_bipush (v := 6) hx hb dXM_next_12 (by decide +kernel) ?_
    refine lv_icmp_ne (tgt := 21) hx hb dXM_next_14 (by decide) (fun hc14 => ?_) (fun hc14 => ?_)
    · rw [if_neg hc14] at hX
      unfold bM_next_21 at hX
      refine lv_iconst (v := 0) hx hb dXM_next_21 (by decide +kernel) ?_
      exact J22 g3 g4 g5 g6 g7 g8 g10 g11 g12 g13 g14 g15 g16 g17 g18 r0 r1 r2 r9 0 _ _ ls (lv_sub hl [0] rfl) hP hD hS hX
    · rw [if_pos hc14] at hX
      exact J17 g3 g4 g5 g6 g7 g8 g10 g11 g12 g13 g14 g15 g16 g17 g18 r0 r1 r2 r9 _ _ ls (lv_sub hl [0] rfl) hP hD hS hX
abbrev rmM_onPatient : Room := { frames := 0, cells := 0, slots := 0, locals := 0 }
set_option maxHeartbeats 4000000 in
set_option maxRecDepth 100000 in
theorem ctM_onPatient (l : Launch) (D : va_G) (cI : ClassId) (h0 a0 a1 a2 a9 sz : Nat) (g3 g4 g5 g6 g7 g8 g10 g11 g12 g13 g14 g15 g16 g17 g18 : Int32) (r0 r1 r2 r9 : Nat → Int32)   : Met l yXM_onPatient wsXM_onPatient rmM_onPatient (va_Pc [.ref h0] (bw_pr D vwC2 [(cI, .int)] (wdM cI h0 a0 a1 a2 a9 g3 g4 g5 g6 g7 g8 g10 g11 g12 g13 g14 g15 g16 g17 g18 r0 r1 r2 r9) sz (fun _ => True))) (va_Qi (fun r u => r = sM_onPatient g3 g4 g5 g6 g7 g8 g10 g11 g12 g13 g14 g15 g16 g17 g18 r0 r1 r2 r9 ∧ u = (g3, g4, g5, g6, g7, g8, g10, g11, g12, g13, g14, g15, g16, g17, g18, r0, r1, r2, r9)) (bw_at D vwC2 [(cI, .int)] (wfM cI h0 a0 a1 a2 a9) (va_A (wdM cI h0 a0 a1 a2 a9 g3 g4 g5 g6 g7 g8 g10 g11 g12 g13 g14 g15 g16 g17 g18 r0 r1 r2 r9) sz)) (va_A (wdM cI h0 a0 a1 a2 a9 g3 g4 g5 g6 g7 g8 g10 g11 g12 g13 g14 g15 g16 g17 g18 r0 r1 r2 r9) sz)) 0 0 (va_A (wdM cI h0 a0 a1 a2 a9 g3 g4 g5 g6 g7 g8 g10 g11 g12 g13 g14 g15 g16 g17 g18 r0 r1 r2 r9) sz) := by
  refine Met.ofW (cc := cXM_onPatient) (maxL := 1) (ret := (some .boolean)) (by decide) rfl ?_
  intro p e s m args below meth c s₁ B hml hv
  obtain ⟨rfl, hsz, hP, hK, hD0, hT⟩ := hv
  have hx := B.exec
  have hb := B.bytes
  have hr := B.returns
  have hts := atoms_spec (ws := wsXM_onPatient) B.pre
  have hown : s.vm.findClass RXM = some m.cls := findClass_of_methodNamed B.named
  have hlocks := B.notSynchronized
  subst hsz
  have hD := hD0.self (sz := s.heap.size)
  generalize hAe : va_A (wdM cI h0 a0 a1 a2 a9 g3 g4 g5 g6 g7 g8 g10 g11 g12 g13 g14 g15 g16 g17 g18 r0 r1 r2 r9) s.heap.size = A at hD hT ⊢
  have hA : ∀ q : Nat, s.heap.size ≤ q → A q := fun q h => by rw [← hAe]; exact Or.inr h
  have hS : va_S A s.heap s.heap [] := va_S.rf
  have hl := lv_entry ([.ref h0]) (n := 1) (Nat.le_of_ble_eq_true rfl)
  rw [lg_entry_eq]
  generalize (lg_sl ([.ref h0]) ++ List.replicate (1 - (lg_sl ([.ref h0])).length) Slot.unset).toArray = ls at hl ⊢
  have hl : lv_has ls 1 [(0, .ref h0)] := hl
  generalize hX : sM_onPatient g3 g4 g5 g6 g7 g8 g10 g11 g12 g13 g14 g15 g16 g17 g18 r0 r1 r2 r9 = X
  refine bw_Q (fun Q hQ => ?_)
  have hinU : ∀ w ∈ wsXM0, w ∈ wsXM_onPatient := fun w h => List.mem_cons_of_mem _ (List.mem_append_right _ h)
  have htM := fun w h => hts w (List.mem_cons_of_mem _ (List.mem_append_left _ h))
  have J20 : ∀  (H : Heap) (locs : List Loc) (ls : Array Slot), lv_has ls 1 [(0, .ref h0)] → va_P D vwC2 (wdM cI h0 a0 a1 a2 a9 g3 g4 g5 g6 g7 g8 g10 g11 g12 g13 g14 g15 g16 g17 g18 r0 r1 r2 r9) H → va_D A (wdM cI h0 a0 a1 a2 a9 g3 g4 g5 g6 g7 g8 g10 g11 g12 g13 g14 g15 g16 g17 g18 r0 r1 r2 r9) → va_S A s.heap H locs → bM_onPatient_20 g3 g4 g5 g6 g7 g8 g10 g11 g12 g13 g14 g15 g16 g17 g18 r0 r1 r2 r9 = X → W p l e (headSpec wsXM_onPatient rmM_onPatient).room s m ([.ref h0] : List Value).toArray below meth c H locs 0 0 Q (F0 m 20 ls []) := by
    intro  H locs ls hl hP hD hS hX
    unfold bM_onPatient_20 at hX
    refine lv_iconst (v := 0) hx hb dXM_onPatient_20 (by decide +kernel) ?_
    subst hQ
    exact W.zret (ty := .boolean) (v := 0) hx hb hr (by decide +kernel) (fun t ht hW => ⟨⟨0, (g3, g4, g5, g6, g7, g8, g10, g11, g12, g13, g14, g15, g16, g17, g18, r0, r1, r2, r9), rfl, ⟨hX, rfl⟩, by rw [ht]; exact hP, va_K.moved hW.alike hK, hD⟩, hS.F ht⟩) hS.2.2 dXM_onPatient_21
  unfold sM_onPatient at hX
  unfold bM_onPatient_0 at hX
  refine lv_aload_n hx hb dXM_onPatient_0 rfl (lv_at hl 0 rfl) ?_
  refine va_get (D := D) (ci := 1) (v := .int g3) (C := RXM) (T := TXM) (N := 19) hx hb hts hinU hown hK hP 0 rfl rfl 3 (by decide) (htM _ wM_8) (fun _ h9 => h9) rfl dXM_onPatient_1 ?_
  refine lv_iconst (v := 2) hx hb dXM_onPatient_4 (by decide +kernel) ?_
  refine lv_icmp_lt (tgt := 20) hx hb dXM_onPatient_5 (by decide) (fun hc5 => ?_) (fun hc5 => ?_)
  · rw [if_pos hc5] at hX
    exact J20  _ _ ls (lv_sub hl [0] rfl) hP hD hS hX
  · rw [if_neg hc5] at hX
    unfold bM_onPatient_8 at hX
    refine lv_aload_n hx hb dXM_onPatient_8 rfl (lv_at hl 0 rfl) ?_
    refine va_get (D := D) (ci := 1) (v := .int g3) (C := RXM) (T := TXM) (N := 19) hx hb hts hinU hown hK hP 0 rfl rfl 3 (by decide) (htM _ wM_8) (fun _ h9 => h9) rfl dXM_onPatient_9 ?_
    refine lv_iconst (v := 4) hx hb dXM_onPatient_12 (by decide +kernel) ?_
    refine lv_icmp_gt (tgt := 20) hx hb dXM_onPatient_13 (by decide) (fun hc13 => ?_) (fun hc13 => ?_)
    · rw [if_pos hc13] at hX
      exact J20  _ _ ls (lv_sub hl [0] rfl) hP hD hS hX
    · rw [if_neg hc13] at hX
      unfold bM_onPatient_16 at hX
      refine lv_iconst (v := 1) hx hb dXM_onPatient_16 (by decide +kernel) ?_
      refine lv_goto (tgt := 21) hx hb dXM_onPatient_17 (by decide) ?_
      subst hQ
      exact W.zret (ty := .boolean) (v := 1) hx hb hr (by decide +kernel) (fun t ht hW => ⟨⟨1, (g3, g4, g5, g6, g7, g8, g10, g11, g12, g13, g14, g15, g16, g17, g18, r0, r1, r2, r9), rfl, ⟨hX, rfl⟩, by rw [ht]; exact hP, va_K.moved hW.alike hK, hD⟩, hS.F ht⟩) hS.2.2 dXM_onPatient_21
abbrev rmM_off : Room := { frames := 0, cells := 0, slots := 0, locals := 0 }
set_option maxHeartbeats 4000000 in
set_option maxRecDepth 100000 in
theorem ctM_off (l : Launch) (D : va_G) (cI : ClassId) (h0 a0 a1 a2 a9 sz : Nat) (g3 g4 g5 g6 g7 g8 g10 g11 g12 g13 g14 g15 g16 g17 g18 : Int32) (r0 r1 r2 r9 : Nat → Int32)   : Met l yXM_off wsXM_off rmM_off (va_Pc [.ref h0] (bw_pr D vwC2 [(cI, .int)] (wdM cI h0 a0 a1 a2 a9 g3 g4 g5 g6 g7 g8 g10 g11 g12 g13 g14 g15 g16 g17 g18 r0 r1 r2 r9) sz (fun _ => True))) (va_Qi (fun r u => r = sM_off g3 g4 g5 g6 g7 g8 g10 g11 g12 g13 g14 g15 g16 g17 g18 r0 r1 r2 r9 ∧ u = (g3, g4, g5, g6, g7, g8, g10, g11, g12, g13, g14, g15, g16, g17, g18, r0, r1, r2, r9)) (bw_at D vwC2 [(cI, .int)] (wfM cI h0 a0 a1 a2 a9) (va_A (wdM cI h0 a0 a1 a2 a9 g3 g4 g5 g6 g7 g8 g10 g11 g12 g13 g14 g15 g16 g17 g18 r0 r1 r2 r9) sz)) (va_A (wdM cI h0 a0 a1 a2 a9 g3 g4 g5 g6 g7 g8 g10 g11 g12 g13 g14 g15 g16 g17 g18 r0 r1 r2 r9) sz)) 0 0 (va_A (wdM cI h0 a0 a1 a2 a9 g3 g4 g5 g6 g7 g8 g10 g11 g12 g13 g14 g15 g16 g17 g18 r0 r1 r2 r9) sz) := by
  refine Met.ofW (cc := cXM_off) (maxL := 3) (ret := (some .boolean)) (by decide) rfl ?_
  intro p e s m args below meth c s₁ B hml hv
  obtain ⟨rfl, hsz, hP, hK, hD0, hT⟩ := hv
  have hx := B.exec
  have hb := B.bytes
  have hr := B.returns
  have hts := atoms_spec (ws := wsXM_off) B.pre
  have hown : s.vm.findClass RXM = some m.cls := findClass_of_methodNamed B.named
  have hlocks := B.notSynchronized
  subst hsz
  have hD := hD0.self (sz := s.heap.size)
  generalize hAe : va_A (wdM cI h0 a0 a1 a2 a9 g3 g4 g5 g6 g7 g8 g10 g11 g12 g13 g14 g15 g16 g17 g18 r0 r1 r2 r9) s.heap.size = A at hD hT ⊢
  have hA : ∀ q : Nat, s.heap.size ≤ q → A q := fun q h => by rw [← hAe]; exact Or.inr h
  have hS : va_S A s.heap s.heap [] := va_S.rf
  have hl := lv_entry ([.ref h0]) (n := 3) (Nat.le_of_ble_eq_true rfl)
  rw [lg_entry_eq]
  generalize (lg_sl ([.ref h0]) ++ List.replicate (3 - (lg_sl ([.ref h0])).length) Slot.unset).toArray = ls at hl ⊢
  have hl : lv_has ls 3 [(0, .ref h0)] := hl
  generalize hX : sM_off g3 g4 g5 g6 g7 g8 g10 g11 g12 g13 g14 g15 g16 g17 g18 r0 r1 r2 r9 = X
  refine bw_Q (fun Q hQ => ?_)
  have hinU : ∀ w ∈ wsXM0, w ∈ wsXM_off := fun w h => List.mem_cons_of_mem _ (List.mem_append_right _ h)
  have htM := fun w h => hts w (List.mem_cons_of_mem _ (List.mem_append_left _ h))
  have J51 : ∀  (H : Heap) (locs : List Loc) (ls : Array Slot), lv_has ls 3 [(0, .ref h0)] → va_P D vwC2 (wdM cI h0 a0 a1 a2 a9 g3 g4 g5 g6 g7 g8 g10 g11 g12 g13 g14 g15 g16 g17 g18 r0 r1 r2 r9) H → va_D A (wdM cI h0 a0 a1 a2 a9 g3 g4 g5 g6 g7 g8 g10 g11 g12 g13 g14 g15 g16 g17 g18 r0 r1 r2 r9) → va_S A s.heap H locs → bM_off_51 g3 g4 g5 g6 g7 g8 g10 g11 g12 g13 g14 g15 g16 g17 g18 r0 r1 r2 r9 = X → W p l e (headSpec wsXM_off rmM_off).room s m ([.ref h0] : List Value).toArray below meth c H locs 0 0 Q (F0 m 51 ls []) := by
    intro  H locs ls hl hP hD hS hX
    unfold bM_off_51 at hX
    refine lv_iconst (v := 1) hx hb dXM_off_51 (by decide +kernel) ?_
    refine lv_goto (tgt := 56) hx hb dXM_off_52 (by decide) ?_
    subst hQ
    exact W.zret (ty := .boolean) (v := 1) hx hb hr (by decide +kernel) (fun t ht hW => ⟨⟨1, (g3, g4, g5, g6, g7, g8, g10, g11, g12, g13, g14, g15, g16, g17, g18, r0, r1, r2, r9), rfl, ⟨hX, rfl⟩, by rw [ht]; exact hP, va_K.moved hW.alike hK, hD⟩, hS.F ht⟩) hS.2.2 dXM_off_56
  unfold sM_off at hX
  unfold bM_off_0 at hX
  refine lv_aload_n hx hb dXM_off_0 rfl (lv_at hl 0 rfl) ?_
  refine va_get (D := D) (ci := 1) (v := .ref a2) (C := RXM) (T := TXM) (N := 19) hx hb hts hinU hown hK hP 0 rfl rfl 2 (by decide) (htM _ wM_7) (fun _ h9 => h9) rfl dXM_off_1 ?_
  refine lv_iconst (v := 2) hx hb dXM_off_4 (by decide +kernel) ?_
  refine bw_ld hx hb hK hP 3 0 rfl rfl 2 (by decide +kernel) (bw_in (by decide +kernel)) dXM_off_5 ?_
  refine lv_aload_n hx hb dXM_off_6 rfl (lv_at hl 0 rfl) ?_
  refine va_get (D := D) (ci := 1) (v := .ref a0) (C := RXM) (T := TXM) (N := 19) hx hb hts hinU hown hK hP 0 rfl rfl 0 (by decide) (htM _ wM_5) (fun _ h9 => h9) rfl dXM_off_7 ?_
  refine lv_iconst (v := 4) hx hb dXM_off_10 (by decide +kernel) ?_
  refine bw_ld hx hb hK hP 1 0 rfl rfl 4 (by decide +kernel) (bw_in (by decide +kernel)) dXM_off_11 ?_
  refine lv_isub hx hb dXM_off_12 ?_
  refine lv_istore_n (lv' := [(1, .int ((r2 2) - (r0 4))), (0, .ref h0)]) hx hb dXM_off_13 rfl hl (by decide) rfl (fun ls hl => ?_)
  refine lv_aload_n hx hb dXM_off_14 rfl (lv_at hl 1 rfl) ?_
  refine va_get (D := D) (ci := 1) (v := .ref a2) (C := RXM) (T := TXM) (N := 19) hx hb hts hinU hown hK hP 0 rfl rfl 2 (by decide) (htM _ wM_7) (fun _ h9 => h9) rfl dXM_off_15 ?_
  refine lv_iconst (v := 3) hx hb dXM_off_18 (by decide +kernel) ?_
  refine bw_ld hx hb hK hP 3 0 rfl rfl 3 (by decide +kernel) (bw_in (by decide +kernel)) dXM_off_19 ?_
  refine lv_aload_n hx hb dXM_off_20 rfl (lv_at hl 1 rfl) ?_
  refine va_get (D := D) (ci := 1) (v := .ref a0) (C := RXM) (T := TXM) (N := 19) hx hb hts hinU hown hK hP 0 rfl rfl 0 (by decide) (htM _ wM_5) (fun _ h9 => h9) rfl dXM_off_21 ?_
  refine lv_iconst (v := 5) hx hb dXM_off_24 (by decide +kernel) ?_
  refine bw_ld hx hb hK hP 1 0 rfl rfl 5 (by decide +kernel) (bw_in (by decide +kernel)) dXM_off_25 ?_
  refine lv_isub hx hb dXM_off_26 ?_
  refine lv_istore_n (lv' := [(2, .int ((r2 3) - (r0 5))), (1, .int ((r2 2) - (r0 4))), (0, .ref h0)]) hx hb dXM_off_27 rfl hl (by decide) rfl (fun ls hl => ?_)
  refine lv_iload_n hx hb dXM_off_28 rfl (lv_at hl 1 rfl) ?_
  refine lv_iconst (v := 5) hx hb dXM_off_29 (by decide +kernel) ?_
  refine lv_icmp_gt (tgt := 51) hx hb dXM_off_30 (by decide) (fun hc30 => ?_) (fun hc30 => ?_)
  · rw [if_pos hc30] at hX
    exact J51  _ _ ls (lv_sub hl [2] rfl) hP hD hS hX
  · rw [if_neg hc30] at hX
    unfold bM_off_33 at hX
    refine lv_iload_n hx hb dXM_off_33 rfl (lv_at hl 1 rfl) ?_
    refine lv_bipush (v := (-5)) hx hb dXM_off_34 (by decide +kernel) ?_
    refine lv_icmp_lt (tgt := 51) hx hb dXM_off_36 (by decide) (fun hc36 => ?_) (fun hc36 => ?_)
    · rw [if_pos hc36] at hX
      exact J51  _ _ ls (lv_sub hl [2] rfl) hP hD hS hX
    · rw [if_neg hc36] at hX
      unfold bM_off_39 at hX
      refine lv_iload_n hx hb dXM_off_39 rfl (lv_at hl 0 rfl) ?_
      refine lv_bipush (v := 40) hx hb dXM_off_40 (by decide +kernel) ?_
      refine lv_icmp_gt (tgt := 51) hx hb dXM_off_42 (by decide) (fun hc42 => ?_) (fun hc42 => ?_)
      · rw [if_pos hc42] at hX
        exact J51  _ _ ls (lv_sub hl [2] rfl) hP hD hS hX
      · rw [if_neg hc42] at hX
        unfold bM_off_45 at hX
        refine lv_iload_n hx hb dXM_off_45 rfl (lv_at hl 0 rfl) ?_
        refine lv_bipush (v := (-40)) hx hb dXM_off_46 (by decide +kernel) ?_
        refine lv_icmp_ge (tgt := 55) hx hb dXM_off_48 (by decide) (fun hc48 => ?_) (fun hc48 => ?_)
        · rw [if_pos hc48] at hX
          unfold bM_off_55 at hX
          refine lv_iconst (v := 0) hx hb dXM_off_55 (by decide +kernel) ?_
          subst hQ
          exact W.zret (ty := .boolean) (v := 0) hx hb hr (by decide +kernel) (fun t ht hW => ⟨⟨0, (g3, g4, g5, g6, g7, g8, g10, g11, g12, g13, g14, g15, g16, g17, g18, r0, r1, r2, r9), rfl, ⟨hX, rfl⟩, by rw [ht]; exact hP, va_K.moved hW.alike hK, hD⟩, hS.F ht⟩) hS.2.2 dXM_off_56
        · rw [if_neg hc48] at hX
          exact J51  _ _ ls (lv_sub hl [2] rfl) hP hD hS hX
abbrev rmM_outside : Room := { frames := 0, cells := 0, slots := 0, locals := 0 }
set_option maxHeartbeats 4000000 in
set_option maxRecDepth 100000 in
theorem ctM_outside (l : Launch) (D : va_G) (cI : ClassId) (h0 a0 a1 a2 a9 sz : Nat) (g3 g4 g5 g6 g7 g8 g10 g11 g12 g13 g14 g15 g16 g17 g18 : Int32) (r0 r1 r2 r9 : Nat → Int32) (k1 k2 k3 : Int32)  : Met l yXM_outside wsXM_outside rmM_outside (va_Pc [.ref h0, .int k1, .int k2, .int k3] (bw_pr D vwC2 [(cI, .int)] (wdM cI h0 a0 a1 a2 a9 g3 g4 g5 g6 g7 g8 g10 g11 g12 g13 g14 g15 g16 g17 g18 r0 r1 r2 r9) sz (fun _ => True))) (va_Qi (fun r u => r = sM_outside g3 g4 g5 g6 g7 g8 g10 g11 g12 g13 g14 g15 g16 g17 g18 r0 r1 r2 r9 k1 k2 k3 ∧ u = (g3, g4, g5, g6, g7, g8, g10, g11, g12, g13, g14, g15, g16, g17, g18, r0, r1, r2, r9)) (bw_at D vwC2 [(cI, .int)] (wfM cI h0 a0 a1 a2 a9) (va_A (wdM cI h0 a0 a1 a2 a9 g3 g4 g5 g6 g7 g8 g10 g11 g12 g13 g14 g15 g16 g17 g18 r0 r1 r2 r9) sz)) (va_A (wdM cI h0 a0 a1 a2 a9 g3 g4 g5 g6 g7 g8 g10 g11 g12 g13 g14 g15 g16 g17 g18 r0 r1 r2 r9) sz)) 0 0 (va_A (wdM cI h0 a0 a1 a2 a9 g3 g4 g5 g6 g7 g8 g10 g11 g12 g13 g14 g15 g16 g17 g18 r0 r1 r2 r9) sz) := by
  refine Met.ofW (cc := cXM_outside) (maxL := 4) (ret := (some .boolean)) (by decide) rfl ?_
  intro p e s m args below meth c s₁ B hml hv
  obtain ⟨rfl, hsz, hP, hK, hD0, hT⟩ := hv
  have hx := B.exec
  have hb := B.bytes
  have hr := B.returns
  have hts := atoms_spec (ws := wsXM_outside) B.pre
  have hown : s.vm.findClass RXM = some m.cls := findClass_of_methodNamed B.named
  have hlocks := B.notSynchronized
  subst hsz
  have hD := hD0.self (sz := s.heap.size)
  generalize hAe : va_A (wdM cI h0 a0 a1 a2 a9 g3 g4 g5 g6 g7 g8 g10 g11 g12 g13 g14 g15 g16 g17 g18 r0 r1 r2 r9) s.heap.size = A at hD hT ⊢
  have hA : ∀ q : Nat, s.heap.size ≤ q → A q := fun q h => by rw [← hAe]; exact Or.inr h
  have hS : va_S A s.heap s.heap [] := va_S.rf
  have hl := lv_entry ([.ref h0, .int k1, .int k2, .int k3]) (n := 4) (Nat.le_of_ble_eq_true rfl)
  rw [lg_entry_eq]
  generalize (lg_sl ([.ref h0, .int k1, .int k2, .int k3]) ++ List.replicate (4 - (lg_sl ([.ref h0, .int k1, .int k2, .int k3])).length) Slot.unset).toArray = ls at hl ⊢
  have hl : lv_has ls 4 [(0, .ref h0), (1, .int k1), (2, .int k2), (3, .int k3)] := hl
  generalize hX : sM_outside g3 g4 g5 g6 g7 g8 g10 g11 g12 g13 g14 g15 g16 g17 g18 r0 r1 r2 r9 k1 k2 k3 = X
  refine bw_Q (fun Q hQ => ?_)
  have hinU : ∀ w ∈ wsXM0, w ∈ wsXM_outside := fun w h => List.mem_cons_of_mem _ (List.mem_append_right _ h)
  have htM := fun w h => hts w (List.mem_cons_of_mem _ (List.mem_append_left _ h))
  have J10 : ∀  (H : Heap) (locs : List Loc) (ls : Array Slot), lv_has ls 4 [(0, .ref h0)] → va_P D vwC2 (wdM cI h0 a0 a1 a2 a9 g3 g4 g5 g6 g7 g8 g10 g11 g12 g13 g14 g15 g16 g17 g18 r0 r1 r2 r9) H → va_D A (wdM cI h0 a0 a1 a2 a9 g3 g4 g5 g6 g7 g8 g10 g11 g12 g13 g14 g15 g16 g17 g18 r0 r1 r2 r9) → va_S A s.heap H locs → bM_outside_10 g3 g4 g5 g6 g7 g8 g10 g11 g12 g13 g14 g15 g16 g17 g18 r0 r1 r2 r9 = X → W p l e (headSpec wsXM_outside rmM_outside).room s m ([.ref h0, .int k1, .int k2, .int k3] : List Value).toArray below meth c H locs 0 0 Q (F0 m 10 ls []) := by
    intro  H locs ls hl hP hD hS hX
    unfold bM_outside_10 at hX
    refine lv_iconst (v := 1) hx hb dXM_outside_10 (by decide +kernel) ?_
    refine lv_goto (tgt := 15) hx hb dXM_outside_11 (by decide) ?_
    subst hQ
    exact W.zret (ty := .boolean) (v := 1) hx hb hr (by decide +kernel) (fun t ht hW => ⟨⟨1, (g3, g4, g5, g6, g7, g8, g10, g11, g12, g13, g14, g15, g16, g17, g18, r0, r1, r2, r9), rfl, ⟨hX, rfl⟩, by rw [ht]; exact hP, va_K.moved hW.alike hK, hD⟩, hS.F ht⟩) hS.2.2 dXM_outside_15
  unfold sM_outside at hX
  unfold bM_outside_0 at hX
  refine lv_iload_n hx hb dXM_outside_0 rfl (lv_at hl 1 rfl) ?_
  refine lv_iload_n hx hb dXM_outside_1 rfl (lv_at hl 2 rfl) ?_
  refine lv_icmp_lt (tgt := 10) hx hb dXM_outside_2 (by decide) (fun hc2 => ?_) (fun hc2 => ?_)
  · rw [if_pos hc2] at hX
    exact J10  _ _ ls (lv_sub hl [0] rfl) hP hD hS hX
  · rw [if_neg hc2] at hX
    unfold bM_outside_5 at hX
    refine lv_iload_n hx hb dXM_outside_5 rfl (lv_at hl 1 rfl) ?_
    refine lv_iload_n hx hb dXM_outside_6 rfl (lv_at hl 3 rfl) ?_
    refine lv_icmp_le (tgt := 14) hx hb dXM_outside_7 (by decide) (fun hc7 => ?_) (fun hc7 => ?_)
    · rw [if_pos hc7] at hX
      unfold bM_outside_14 at hX
      refine lv_iconst (v := 0) hx hb dXM_outside_14 (by decide +kernel) ?_
      subst hQ
      exact W.zret (ty := .boolean) (v := 0) hx hb hr (by decide +kernel) (fun t ht hW => ⟨⟨0, (g3, g4, g5, g6, g7, g8, g10, g11, g12, g13, g14, g15, g16, g17, g18, r0, r1, r2, r9), rfl, ⟨hX, rfl⟩, by rw [ht]; exact hP, va_K.moved hW.alike hK, hD⟩, hS.F ht⟩) hS.2.2 dXM_outside_15
    · rw [if_neg hc7] at hX
      exact J10  _ _ ls (lv_sub hl [0] rfl) hP hD hS hX
abbrev rmM_condition : Room := { frames := 1, cells := 0, slots := 0, locals := 23 }
set_option maxHeartbeats 4000000 in
set_option maxRecDepth 100000 in
theorem ctM_condition (l : Launch) (D : va_G) (cI : ClassId) (h0 a0 a1 a2 a9 sz : Nat) (g3 g4 g5 g6 g7 g8 g10 g11 g12 g13 g14 g15 g16 g17 g18 : Int32) (r0 r1 r2 r9 : Nat → Int32)   : Met l yXM_condition wsXM_condition rmM_condition (va_Pc [.ref h0] (bw_pr D vwC2 [(cI, .int)] (wdM cI h0 a0 a1 a2 a9 g3 g4 g5 g6 g7 g8 g10 g11 g12 g13 g14 g15 g16 g17 g18 r0 r1 r2 r9) sz (fun _ => True))) (va_Qv (fun u => u = sM_condition g3 g4 g5 g6 g7 g8 g10 g11 g12 g13 g14 g15 g16 g17 g18 r0 r1 r2 r9) (bw_at D vwC2 [(cI, .int)] (wfM cI h0 a0 a1 a2 a9) (va_A (wdM cI h0 a0 a1 a2 a9 g3 g4 g5 g6 g7 g8 g10 g11 g12 g13 g14 g15 g16 g17 g18 r0 r1 r2 r9) sz)) (va_A (wdM cI h0 a0 a1 a2 a9 g3 g4 g5 g6 g7 g8 g10 g11 g12 g13 g14 g15 g16 g17 g18 r0 r1 r2 r9) sz)) 0 0 (va_A (wdM cI h0 a0 a1 a2 a9 g3 g4 g5 g6 g7 g8 g10 g11 g12 g13 g14 g15 g16 g17 g18 r0 r1 r2 r9) sz) := by
  refine Met.ofW (cc := cXM_condition) (maxL := 2) (ret := none) (by decide) rfl ?_
  intro p e s m args below meth c s₁ B hml hv
  obtain ⟨rfl, hsz, hP, hK, hD0, hT⟩ := hv
  have hx := B.exec
  have hb := B.bytes
  have hr := B.returns
  have hts := atoms_spec (ws := wsXM_condition) B.pre
  have hown : s.vm.findClass RXM = some m.cls := findClass_of_methodNamed B.named
  have hlocks := B.notSynchronized
  subst hsz
  have hD := hD0.self (sz := s.heap.size)
  generalize hAe : va_A (wdM cI h0 a0 a1 a2 a9 g3 g4 g5 g6 g7 g8 g10 g11 g12 g13 g14 g15 g16 g17 g18 r0 r1 r2 r9) s.heap.size = A at hD hT ⊢
  have hA : ∀ q : Nat, s.heap.size ≤ q → A q := fun q h => by rw [← hAe]; exact Or.inr h
  have hS : va_S A s.heap s.heap [] := va_S.rf
  have hl := lv_entry ([.ref h0]) (n := 2) (Nat.le_of_ble_eq_true rfl)
  rw [lg_entry_eq]
  generalize (lg_sl ([.ref h0]) ++ List.replicate (2 - (lg_sl ([.ref h0])).length) Slot.unset).toArray = ls at hl ⊢
  have hl : lv_has ls 2 [(0, .ref h0)] := hl
  generalize hX : sM_condition g3 g4 g5 g6 g7 g8 g10 g11 g12 g13 g14 g15 g16 g17 g18 r0 r1 r2 r9 = X
  refine bw_Q (fun Q hQ => ?_)
  have hinU : ∀ w ∈ wsXM0, w ∈ wsXM_condition := fun w h => List.mem_cons_of_mem _ (List.mem_append_right _ h)
  have htM := fun w h => hts w (List.mem_cons_of_mem _ (List.mem_append_left _ h))
  have J128 : ∀ (g3 g4 g5 g6 g7 g8 g10 g11 g12 g13 g14 g15 g16 g17 g18 : Int32) (r0 r1 r2 r9 : Nat → Int32) (H : Heap) (locs : List Loc) (ls : Array Slot), lv_has ls 2 [(0, .ref h0)] → va_P D vwC2 (wdM cI h0 a0 a1 a2 a9 g3 g4 g5 g6 g7 g8 g10 g11 g12 g13 g14 g15 g16 g17 g18 r0 r1 r2 r9) H → va_D A (wdM cI h0 a0 a1 a2 a9 g3 g4 g5 g6 g7 g8 g10 g11 g12 g13 g14 g15 g16 g17 g18 r0 r1 r2 r9) → va_S A s.heap H locs → bM_condition_128 g3 g4 g5 g6 g7 g8 g10 g11 g12 g13 g14 g15 g16 g17 g18 r0 r1 r2 r9 = X → W p l e (headSpec wsXM_condition rmM_condition).room s m ([.ref h0] : List Value).toArray below meth c H locs 0 0 Q (F0 m 128 ls []) := by
    intro g3 g4 g5 g6 g7 g8 g10 g11 g12 g13 g14 g15 g16 g17 g18 r0 r1 r2 r9 H locs ls hl hP hD hS hX
    unfold bM_condition_128 at hX
    refine lv_aload_n hx hb dXM_condition_128 rfl (lv_at hl 0 rfl) ?_
    refine bw_Vi (wr := []) (As := []) (rest := []) ⟨hx, hb, hml, hown, hts⟩ (ctM_off l D cI h0 a0 a1 a2 a9 _ g3 g4 g5 g6 g7 g8 g10 g11 g12 g13 g14 g15 g16 g17 g18 r0 r1 r2 r9) (cwV 0 hts gXM_condition_XM_off rfl rfl rfl (by decide +kernel) ⟨Nat.le_of_ble_eq_true rfl, Nat.le_of_ble_eq_true rfl⟩) hK hP hD hS hA (fun _ _ _ _ h => h) (fun _ _ _ => trivial) 0 rfl rfl rfl hl.1 rfl (Nat.le_of_ble_eq_true rfl) dXM_condition_129 ⟨Nat.le_of_ble_eq_true rfl, Nat.le_of_ble_eq_true rfl⟩ (fun q1 u H locs hu hP hD hS => ?_)
    obtain ⟨hr1, rfl⟩ := hu
    subst hr1
    have hP : va_P D vwC2 (wdM cI h0 a0 a1 a2 a9 g3 g4 g5 g6 g7 g8 g10 g11 g12 g13 g14 g15 g16 g17 g18 r0 r1 r2 r9) H := hP
    have hD : va_D A (wdM cI h0 a0 a1 a2 a9 g3 g4 g5 g6 g7 g8 g10 g11 g12 g13 g14 g15 g16 g17 g18 r0 r1 r2 r9) := hD
    refine lv_if_eq (tgt := 146) hx hb dXM_condition_132 (by decide) (fun hc132 => ?_) (fun hc132 => ?_)
    · rw [if_pos hc132] at hX
      unfold bM_condition_146 at hX
      refine lv_aload_n hx hb dXM_condition_146 rfl (lv_at hl 0 rfl) ?_
      refine lv_aload_n hx hb dXM_condition_147 rfl (lv_at hl 0 rfl) ?_
      refine va_get (D := D) (ci := 1) (v := .int g8) (C := RXM) (T := TXM) (N := 19) hx hb hts hinU hown hK hP 0 rfl rfl 8 (by decide) (htM _ wM_13) (fun _ h9 => h9) rfl dXM_condition_148 ?_
      refine va_put (D := D) (ci := 1) (v := .int g8) (ty := .int) (C := RXM) (T := TXM) (N := 19) hx hb hts hinU tyXM tyXM_ok nmXM hown hK hP hD hS 0 rfl rfl 12 (by decide) (htM _ wM_17) (fun _ h9 => h9) rfl (by decide +kernel) rfl rfl (Nat.le_of_ble_eq_true rfl) dXM_condition_151 (fun H locs hP hD hS => ?_)
      have hP : va_P D vwC2 (wdM cI h0 a0 a1 a2 a9 g3 g4 g5 g6 g7 g8 g10 g11 g8 g13 g14 g15 g16 g17 g18 r0 r1 r2 r9) H := hP
      have hD : va_D A (wdM cI h0 a0 a1 a2 a9 g3 g4 g5 g6 g7 g8 g10 g11 g8 g13 g14 g15 g16 g17 g18 r0 r1 r2 r9) := hD
      subst hQ
      exact W.vret hx hb hr (fun t ht hW => ⟨⟨(g3, g4, g5, g6, g7, g8, g10, g11, g8, g13, g14, g15, g16, g17, g18, r0, r1, r2, r9), rfl, hX, by rw [ht]; exact hP, va_K.moved hW.alike hK, hD⟩, hS.F ht⟩) hS.2.2 dXM_condition_154
    · rw [if_neg hc132] at hX
      unfold bM_condition_135 at hX
      refine lv_aload_n hx hb dXM_condition_135 rfl (lv_at hl 0 rfl) ?_
      refine lv_aload_n hx hb dXM_condition_136 rfl (lv_at hl 0 rfl) ?_
      refine va_get (D := D) (ci := 1) (v := .int g8) (C := RXM) (T := TXM) (N := 19) hx hb hts hinU hown hK hP 0 rfl rfl 8 (by decide) (htM _ wM_13) (fun _ h9 => h9) rfl dXM_condition_137 ?_
      refine va_put (D := D) (ci := 1) (v := .int g8) (ty := .int) (C := RXM) (T := TXM) (N := 19) hx hb hts hinU tyXM tyXM_ok nmXM hown hK hP hD hS 0 rfl rfl 13 (by decide) (htM _ wM_18) (fun _ h9 => h9) rfl (by decide +kernel) rfl rfl (Nat.le_of_ble_eq_true rfl) dXM_condition_140 (fun H locs hP hD hS => ?_)
      have hP : va_P D vwC2 (wdM cI h0 a0 a1 a2 a9 g3 g4 g5 g6 g7 g8 g10 g11 g12 g8 g14 g15 g16 g17 g18 r0 r1 r2 r9) H := hP
      have hD : va_D A (wdM cI h0 a0 a1 a2 a9 g3 g4 g5 g6 g7 g8 g10 g11 g12 g8 g14 g15 g16 g17 g18 r0 r1 r2 r9) := hD
      refine lv_goto (tgt := 154) hx hb dXM_condition_143 (by decide) ?_
      subst hQ
      exact W.vret hx hb hr (fun t ht hW => ⟨⟨(g3, g4, g5, g6, g7, g8, g10, g11, g12, g8, g14, g15, g16, g17, g18, r0, r1, r2, r9), rfl, hX, by rw [ht]; exact hP, va_K.moved hW.alike hK, hD⟩, hS.F ht⟩) hS.2.2 dXM_condition_154
  have J120 : ∀ (g3 g4 g5 g6 g7 g8 g10 g11 g12 g13 g14 g15 g16 g17 g18 : Int32) (r0 r1 r2 r9 : Nat → Int32) (H : Heap) (locs : List Loc) (ls : Array Slot), lv_has ls 2 [(0, .ref h0)] → va_P D vwC2 (wdM cI h0 a0 a1 a2 a9 g3 g4 g5 g6 g7 g8 g10 g11 g12 g13 g14 g15 g16 g17 g18 r0 r1 r2 r9) H → va_D A (wdM cI h0 a0 a1 a2 a9 g3 g4 g5 g6 g7 g8 g10 g11 g12 g13 g14 g15 g16 g17 g18 r0 r1 r2 r9) → va_S A s.heap H locs → bM_condition_120 g3 g4 g5 g6 g7 g8 g10 g11 g12 g13 g14 g15 g16 g17 g18 r0 r1 r2 r9 = X → W p l e (headSpec wsXM_condition rmM_condition).room s m ([.ref h0] : List Value).toArray below meth c H locs 0 0 Q (F0 m 120 ls []) := by
    intro g3 g4 g5 g6 g7 g8 g10 g11 g12 g13 g14 g15 g16 g17 g18 r0 r1 r2 r9 H locs ls hl hP hD hS hX
    unfold bM_condition_120 at hX
    refine lv_aload_n hx hb dXM_condition_120 rfl (lv_at hl 0 rfl) ?_
    refine lv_aload_n hx hb dXM_condition_121 rfl (lv_at hl 0 rfl) ?_
    refine va_get (D := D) (ci := 1) (v := .int g8) (C := RXM) (T := TXM) (N := 19) hx hb hts hinU hown hK hP 0 rfl rfl 8 (by decide) (htM _ wM_13) (fun _ h9 => h9) rfl dXM_condition_122 ?_
    refine va_put (D := D) (ci := 1) (v := .int g8) (ty := .int) (C := RXM) (T := TXM) (N := 19) hx hb hts hinU tyXM tyXM_ok nmXM hown hK hP hD hS 0 rfl rfl 11 (by decide) (htM _ wM_16) (fun _ h9 => h9) rfl (by decide +kernel) rfl rfl (Nat.le_of_ble_eq_true rfl) dXM_condition_125 (fun H locs hP hD hS => ?_)
    have hP : va_P D vwC2 (wdM cI h0 a0 a1 a2 a9 g3 g4 g5 g6 g7 g8 g10 g8 g12 g13 g14 g15 g16 g17 g18 r0 r1 r2 r9) H := hP
    have hD : va_D A (wdM cI h0 a0 a1 a2 a9 g3 g4 g5 g6 g7 g8 g10 g8 g12 g13 g14 g15 g16 g17 g18 r0 r1 r2 r9) := hD
    exact J128 g3 g4 g5 g6 g7 g8 g10 g8 g12 g13 g14 g15 g16 g17 g18 r0 r1 r2 r9 _ _ ls (lv_sub hl [0] rfl) hP hD hS hX
  have J86 : ∀ (g3 g4 g5 g6 g7 g8 g10 g11 g12 g13 g14 g15 g16 g17 g18 : Int32) (r0 r1 r2 r9 : Nat → Int32) (H : Heap) (locs : List Loc) (ls : Array Slot), lv_has ls 2 [(0, .ref h0)] → va_P D vwC2 (wdM cI h0 a0 a1 a2 a9 g3 g4 g5 g6 g7 g8 g10 g11 g12 g13 g14 g15 g16 g17 g18 r0 r1 r2 r9) H → va_D A (wdM cI h0 a0 a1 a2 a9 g3 g4 g5 g6 g7 g8 g10 g11 g12 g13 g14 g15 g16 g17 g18 r0 r1 r2 r9) → va_S A s.heap H locs → bM_condition_86 g3 g4 g5 g6 g7 g8 g10 g11 g12 g13 g14 g15 g16 g17 g18 r0 r1 r2 r9 = X → W p l e (headSpec wsXM_condition rmM_condition).room s m ([.ref h0] : List Value).toArray below meth c H locs 0 0 Q (F0 m 86 ls []) := by
    intro g3 g4 g5 g6 g7 g8 g10 g11 g12 g13 g14 g15 g16 g17 g18 r0 r1 r2 r9 H locs ls hl hP hD hS hX
    unfold bM_condition_86 at hX
    refine lv_aload_n hx hb dXM_condition_86 rfl (lv_at hl 0 rfl) ?_
    refine bw_Vi (wr := []) (As := []) (rest := []) ⟨hx, hb, hml, hown, hts⟩ (ctM_onPatient l D cI h0 a0 a1 a2 a9 _ g3 g4 g5 g6 g7 g8 g10 g11 g12 g13 g14 g15 g16 g17 g18 r0 r1 r2 r9) (cwV 0 hts gXM_condition_XM_onPatient rfl rfl rfl (by decide +kernel) ⟨Nat.le_of_ble_eq_true rfl, Nat.le_of_ble_eq_true rfl⟩) hK hP hD hS hA (fun _ _ _ _ h => h) (fun _ _ _ => trivial) 0 rfl rfl rfl hl.1 rfl (Nat.le_of_ble_eq_true rfl) dXM_condition_87 ⟨Nat.le_of_ble_eq_true rfl, Nat.le_of_ble_eq_true rfl⟩ (fun q2 u H locs hu hP hD hS => ?_)
    obtain ⟨hr1, rfl⟩ := hu
    subst hr1
    have hP : va_P D vwC2 (wdM cI h0 a0 a1 a2 a9 g3 g4 g5 g6 g7 g8 g10 g11 g12 g13 g14 g15 g16 g17 g18 r0 r1 r2 r9) H := hP
    have hD : va_D A (wdM cI h0 a0 a1 a2 a9 g3 g4 g5 g6 g7 g8 g10 g11 g12 g13 g14 g15 g16 g17 g18 r0 r1 r2 r9) := hD
    refine lv_if_eq (tgt := 120) hx hb dXM_condition_90 (by decide) (fun hc90 => ?_) (fun hc90 => ?_)
    · rw [if_pos hc90] at hX
      exact J120 g3 g4 g5 g6 g7 g8 g10 g11 g12 g13 g14 g15 g16 g17 g18 r0 r1 r2 r9 _ _ ls (lv_sub hl [0] rfl) hP hD hS hX
    · rw [if_neg hc90] at hX
      unfold bM_condition_93 at hX
      refine lv_aload_n hx hb dXM_condition_93 rfl (lv_at hl 0 rfl) ?_
      refine lv_aload_n hx hb dXM_condition_94 rfl (lv_at hl 0 rfl) ?_
      refine va_get (D := D) (ci := 1) (v := .ref a2) (C := RXM) (T := TXM) (N := 19) hx hb hts hinU hown hK hP 0 rfl rfl 2 (by decide) (htM _ wM_7) (fun _ h9 => h9) rfl dXM_condition_95 ?_
      refine lv_iconst (v := 1) hx hb dXM_condition_98 (by decide +kernel) ?_
      refine bw_ld hx hb hK hP 3 0 rfl rfl 1 (by decide +kernel) (bw_in (by decide +kernel)) dXM_condition_99 ?_
      refine lv_aload_n hx hb dXM_condition_100 rfl (lv_at hl 0 rfl) ?_
      refine va_get (D := D) (ci := 1) (v := .ref a0) (C := RXM) (T := TXM) (N := 19) hx hb hts hinU hown hK hP 0 rfl rfl 0 (by decide) (htM _ wM_5) (fun _ h9 => h9) rfl dXM_condition_101 ?_
      refine lv_bipush (v := 8) hx hb dXM_condition_104 (by decide +kernel) ?_
      refine bw_ld hx hb hK hP 1 0 rfl rfl 8 (by decide +kernel) (bw_in (by decide +kernel)) dXM_condition_106 ?_
      refine lv_aload_n hx hb dXM_condition_107 rfl (lv_at hl 0 rfl) ?_
      refine va_get (D := D) (ci := 1) (v := .ref a0) (C := RXM) (T := TXM) (N := 19) hx hb hts hinU hown hK hP 0 rfl rfl 0 (by decide) (htM _ wM_5) (fun _ h9 => h9) rfl dXM_condition_108 ?_
      refine lv_bipush (v := 9) hx hb dXM_condition_111 (by decide +kernel) ?_
      refine bw_ld hx hb hK hP 1 0 rfl rfl 9 (by decide +kernel) (bw_in (by decide +kernel)) dXM_condition_113 ?_
      refine bw_Vi (wr := []) (As := [.int (r2 1), .int (r0 8), .int (r0 9)]) (rest := []) ⟨hx, hb, hml, hown, hts⟩ (ctM_outside l D cI h0 a0 a1 a2 a9 _ g3 g4 g5 g6 g7 g8 g10 g11 g12 g13 g14 g15 g16 g17 g18 r0 r1 r2 r9 (r2 1) (r0 8) (r0 9)) (cwV 3 hts gXM_condition_XM_outside rfl rfl rfl (by decide +kernel) ⟨Nat.le_of_ble_eq_true rfl, Nat.le_of_ble_eq_true rfl⟩) hK hP hD hS hA (fun _ _ _ _ h => h) (fun _ _ _ => trivial) 0 rfl rfl rfl hl.1 rfl (Nat.le_of_ble_eq_true rfl) dXM_condition_114 ⟨Nat.le_of_ble_eq_true rfl, Nat.le_of_ble_eq_true rfl⟩ (fun q3 u H locs hu hP hD hS => ?_)
      obtain ⟨hr1, rfl⟩ := hu
      subst hr1
      have hP : va_P D vwC2 (wdM cI h0 a0 a1 a2 a9 g3 g4 g5 g6 g7 g8 g10 g11 g12 g13 g14 g15 g16 g17 g18 r0 r1 r2 r9) H := hP
      have hD : va_D A (wdM cI h0 a0 a1 a2 a9 g3 g4 g5 g6 g7 g8 g10 g11 g12 g13 g14 g15 g16 g17 g18 r0 r1 r2 r9) := hD
      refine lv_if_ne (tgt := 128) hx hb dXM_condition_117 (by decide) (fun hc117 => ?_) (fun hc117 => ?_)
      · rw [if_neg hc117] at hX
        exact J128 g3 g4 g5 g6 g7 g8 g10 g11 g12 g13 g14 g15 g16 g17 g18 r0 r1 r2 r9 _ _ ls (lv_sub hl [0] rfl) hP hD hS hX
      · rw [if_pos hc117] at hX
        exact J120 g3 g4 g5 g6 g7 g8 g10 g11 g12 g13 g14 g15 g16 g17 g18 r0 r1 r2 r9 _ _ ls (lv_sub hl [0] rfl) hP hD hS hX
  have J78 : ∀ (g3 g4 g5 g6 g7 g8 g10 g11 g12 g13 g14 g15 g16 g17 g18 : Int32) (r0 r1 r2 r9 : Nat → Int32) (H : Heap) (locs : List Loc) (ls : Array Slot), lv_has ls 2 [(0, .ref h0)] → va_P D vwC2 (wdM cI h0 a0 a1 a2 a9 g3 g4 g5 g6 g7 g8 g10 g11 g12 g13 g14 g15 g16 g17 g18 r0 r1 r2 r9) H → va_D A (wdM cI h0 a0 a1 a2 a9 g3 g4 g5 g6 g7 g8 g10 g11 g12 g13 g14 g15 g16 g17 g18 r0 r1 r2 r9) → va_S A s.heap H locs → bM_condition_78 g3 g4 g5 g6 g7 g8 g10 g11 g12 g13 g14 g15 g16 g17 g18 r0 r1 r2 r9 = X → W p l e (headSpec wsXM_condition rmM_condition).room s m ([.ref h0] : List Value).toArray below meth c H locs 0 0 Q (F0 m 78 ls []) := by
    intro g3 g4 g5 g6 g7 g8 g10 g11 g12 g13 g14 g15 g16 g17 g18 r0 r1 r2 r9 H locs ls hl hP hD hS hX
    unfold bM_condition_78 at hX
    refine lv_aload_n hx hb dXM_condition_78 rfl (lv_at hl 0 rfl) ?_
    refine lv_aload_n hx hb dXM_condition_79 rfl (lv_at hl 0 rfl) ?_
    refine va_get (D := D) (ci := 1) (v := .int g8) (C := RXM) (T := TXM) (N := 19) hx hb hts hinU hown hK hP 0 rfl rfl 8 (by decide) (htM _ wM_13) (fun _ h9 => h9) rfl dXM_condition_80 ?_
    refine va_put (D := D) (ci := 1) (v := .int g8) (ty := .int) (C := RXM) (T := TXM) (N := 19) hx hb hts hinU tyXM tyXM_ok nmXM hown hK hP hD hS 0 rfl rfl 10 (by decide) (htM _ wM_15) (fun _ h9 => h9) rfl (by decide +kernel) rfl rfl (Nat.le_of_ble_eq_true rfl) dXM_condition_83 (fun H locs hP hD hS => ?_)
    have hP : va_P D vwC2 (wdM cI h0 a0 a1 a2 a9 g3 g4 g5 g6 g7 g8 g8 g11 g12 g13 g14 g15 g16 g17 g18 r0 r1 r2 r9) H := hP
    have hD : va_D A (wdM cI h0 a0 a1 a2 a9 g3 g4 g5 g6 g7 g8 g8 g11 g12 g13 g14 g15 g16 g17 g18 r0 r1 r2 r9) := hD
    exact J86 g3 g4 g5 g6 g7 g8 g8 g11 g12 g13 g14 g15 g16 g17 g18 r0 r1 r2 r9 _ _ ls (lv_sub hl [0] rfl) hP hD hS hX
  have J44 : ∀ (g3 g4 g5 g6 g7 g8 g10 g11 g12 g13 g14 g15 g16 g17 g18 : Int32) (r0 r1 r2 r9 : Nat → Int32) (H : Heap) (locs : List Loc) (ls : Array Slot), lv_has ls 2 [(0, .ref h0)] → va_P D vwC2 (wdM cI h0 a0 a1 a2 a9 g3 g4 g5 g6 g7 g8 g10 g11 g12 g13 g14 g15 g16 g17 g18 r0 r1 r2 r9) H → va_D A (wdM cI h0 a0 a1 a2 a9 g3 g4 g5 g6 g7 g8 g10 g11 g12 g13 g14 g15 g16 g17 g18 r0 r1 r2 r9) → va_S A s.heap H locs → bM_condition_44 g3 g4 g5 g6 g7 g8 g10 g11 g12 g13 g14 g15 g16 g17 g18 r0 r1 r2 r9 = X → W p l e (headSpec wsXM_condition rmM_condition).room s m ([.ref h0] : List Value).toArray below meth c H locs 0 0 Q (F0 m 44 ls []) := by
    intro g3 g4 g5 g6 g7 g8 g10 g11 g12 g13 g14 g15 g16 g17 g18 r0 r1 r2 r9 H locs ls hl hP hD hS hX
    unfold bM_condition_44 at hX
    refine lv_aload_n hx hb dXM_condition_44 rfl (lv_at hl 0 rfl) ?_
    refine bw_Vi (wr := []) (As := []) (rest := []) ⟨hx, hb, hml, hown, hts⟩ (ctM_onPatient l D cI h0 a0 a1 a2 a9 _ g3 g4 g5 g6 g7 g8 g10 g11 g12 g13 g14 g15 g16 g17 g18 r0 r1 r2 r9) (cwV 0 hts gXM_condition_XM_onPatient rfl rfl rfl (by decide +kernel) ⟨Nat.le_of_ble_eq_true rfl, Nat.le_of_ble_eq_true rfl⟩) hK hP hD hS hA (fun _ _ _ _ h => h) (fun _ _ _ => trivial) 0 rfl rfl rfl hl.1 rfl (Nat.le_of_ble_eq_true rfl) dXM_condition_45 ⟨Nat.le_of_ble_eq_true rfl, Nat.le_of_ble_eq_true rfl⟩ (fun q4 u H locs hu hP hD hS => ?_)
    obtain ⟨hr1, rfl⟩ := hu
    subst hr1
    have hP : va_P D vwC2 (wdM cI h0 a0 a1 a2 a9 g3 g4 g5 g6 g7 g8 g10 g11 g12 g13 g14 g15 g16 g17 g18 r0 r1 r2 r9) H := hP
    have hD : va_D A (wdM cI h0 a0 a1 a2 a9 g3 g4 g5 g6 g7 g8 g10 g11 g12 g13 g14 g15 g16 g17 g18 r0 r1 r2 r9) := hD
    refine lv_if_eq (tgt := 78) hx hb dXM_condition_48 (by decide) (fun hc48 => ?_) (fun hc48 => ?_)
    · rw [if_pos hc48] at hX
      exact J78 g3 g4 g5 g6 g7 g8 g10 g11 g12 g13 g14 g15 g16 g17 g18 r0 r1 r2 r9 _ _ ls (lv_sub hl [0] rfl) hP hD hS hX
    · rw [if_neg hc48] at hX
      unfold bM_condition_51 at hX
      refine lv_aload_n hx hb dXM_condition_51 rfl (lv_at hl 0 rfl) ?_
      refine lv_aload_n hx hb dXM_condition_52 rfl (lv_at hl 0 rfl) ?_
      refine va_get (D := D) (ci := 1) (v := .ref a2) (C := RXM) (T := TXM) (N := 19) hx hb hts hinU hown hK hP 0 rfl rfl 2 (by decide) (htM _ wM_7) (fun _ h9 => h9) rfl dXM_condition_53 ?_
      refine lv_iconst (v := 0) hx hb dXM_condition_56 (by decide +kernel) ?_
      refine bw_ld hx hb hK hP 3 0 rfl rfl 0 (by decide +kernel) (bw_in (by decide +kernel)) dXM_condition_57 ?_
      refine lv_aload_n hx hb dXM_condition_58 rfl (lv_at hl 0 rfl) ?_
      refine va_get (D := D) (ci := 1) (v := .ref a0) (C := RXM) (T := TXM) (N := 19) hx hb hts hinU hown hK hP 0 rfl rfl 0 (by decide) (htM _ wM_5) (fun _ h9 => h9) rfl dXM_condition_59 ?_
      refine lv_bipush (v := 6) hx hb dXM_condition_62 (by decide +kernel) ?_
      refine bw_ld hx hb hK hP 1 0 rfl rfl 6 (by decide +kernel) (bw_in (by decide +kernel)) dXM_condition_64 ?_
      refine lv_aload_n hx hb dXM_condition_65 rfl (lv_at hl 0 rfl) ?_
      refine va_get (D := D) (ci := 1) (v := .ref a0) (C := RXM) (T := TXM) (N := 19) hx hb hts hinU hown hK hP 0 rfl rfl 0 (by decide) (htM _ wM_5) (fun _ h9 => h9) rfl dXM_condition_66 ?_
      refine lv_bipush (v := 7) hx hb dXM_condition_69 (by decide +kernel) ?_
      refine bw_ld hx hb hK hP 1 0 rfl rfl 7 (by decide +kernel) (bw_in (by decide +kernel)) dXM_condition_71 ?_
      refine bw_Vi (wr := []) (As := [.int (r2 0), .int (r0 6), .int (r0 7)]) (rest := []) ⟨hx, hb, hml, hown, hts⟩ (ctM_outside l D cI h0 a0 a1 a2 a9 _ g3 g4 g5 g6 g7 g8 g10 g11 g12 g13 g14 g15 g16 g17 g18 r0 r1 r2 r9 (r2 0) (r0 6) (r0 7)) (cwV 3 hts gXM_condition_XM_outside rfl rfl rfl (by decide +kernel) ⟨Nat.le_of_ble_eq_true rfl, Nat.le_of_ble_eq_true rfl⟩) hK hP hD hS hA (fun _ _ _ _ h => h) (fun _ _ _ => trivial) 0 rfl rfl rfl hl.1 rfl (Nat.le_of_ble_eq_true rfl) dXM_condition_72 ⟨Nat.le_of_ble_eq_true rfl, Nat.le_of_ble_eq_true rfl⟩ (fun q5 u H locs hu hP hD hS => ?_)
      obtain ⟨hr1, rfl⟩ := hu
      subst hr1
      have hP : va_P D vwC2 (wdM cI h0 a0 a1 a2 a9 g3 g4 g5 g6 g7 g8 g10 g11 g12 g13 g14 g15 g16 g17 g18 r0 r1 r2 r9) H := hP
      have hD : va_D A (wdM cI h0 a0 a1 a2 a9 g3 g4 g5 g6 g7 g8 g10 g11 g12 g13 g14 g15 g16 g17 g18 r0 r1 r2 r9) := hD
      refine lv_if_ne (tgt := 86) hx hb dXM_condition_75 (by decide) (fun hc75 => ?_) (fun hc75 => ?_)
      · rw [if_neg hc75] at hX
        exact J86 g3 g4 g5 g6 g7 g8 g10 g11 g12 g13 g14 g15 g16 g17 g18 r0 r1 r2 r9 _ _ ls (lv_sub hl [0] rfl) hP hD hS hX
      · rw [if_pos hc75] at hX
        exact J78 g3 g4 g5 g6 g7 g8 g10 g11 g12 g13 g14 g15 g16 g17 g18 r0 r1 r2 r9 _ _ ls (lv_sub hl [0] rfl) hP hD hS hX
  have JH2 : ∀ (f k : Nat), k < f → k ≤ 6 → ∀ (g3 g4 g5 g6 g7 g8 g10 g11 g12 g13 g14 g15 g16 g17 g18 : Int32) (r0 r1 r2 r9 : Nat → Int32) (x1 : Int32), x1 = nI (6 - k) → ∀ (H : Heap) (locs : List Loc) (ls : Array Slot), lv_has ls 2 [(0, .ref h0), (1, .int x1)] → va_P D vwC2 (wdM cI h0 a0 a1 a2 a9 g3 g4 g5 g6 g7 g8 g10 g11 g12 g13 g14 g15 g16 g17 g18 r0 r1 r2 r9) H → va_D A (wdM cI h0 a0 a1 a2 a9 g3 g4 g5 g6 g7 g8 g10 g11 g12 g13 g14 g15 g16 g17 g18 r0 r1 r2 r9) → va_S A s.heap H locs → bM_condition_2 f g3 g4 g5 g6 g7 g8 g10 g11 g12 g13 g14 g15 g16 g17 g18 r0 r1 r2 r9 x1 = X → W p l e (headSpec wsXM_condition rmM_condition).room s m ([.ref h0] : List Value).toArray below meth c H locs 0 0 Q (F0 m 2 ls []) := by
    intro f
    induction f with
    | zero => intro k hkf; omega
    | succ f ih =>
      intro k hkf hkN g3 g4 g5 g6 g7 g8 g10 g11 g12 g13 g14 g15 g16 g17 g18 r0 r1 r2 r9 x1 hi H locs ls hl hP hD hS hX
      rw [bM_condition_2_s] at hX
      refine lv_iload_n hx hb dXM_condition_2 rfl (lv_at hl 1 rfl) ?_
      refine lv_bipush (v := 6) hx hb dXM_condition_3 (by decide +kernel) ?_
      refine lv_icmp_ge (tgt := 44) hx hb dXM_condition_5 (by decide) (fun hc5 => ?_) (fun hc5 => ?_)
      · rw [if_pos hc5] at hX
        exact J44 g3 g4 g5 g6 g7 g8 g10 g11 g12 g13 g14 g15 g16 g17 g18 r0 r1 r2 r9 _ _ ls (lv_sub hl [0] rfl) hP hD hS hX
      · rw [if_neg hc5] at hX
        have hk0 : k ≠ 0 := fun h => hc5 (by rw [hi, h]; decide +kernel)
        obtain ⟨k, rfl⟩ : ∃ k', k = k' + 1 := ⟨k - 1, by omega⟩
        have hin : vp_in x1 6 := by rw [hi]; exact vp_in_nI (by omega) (by decide)
        unfold bM_condition_8 at hX
        refine lv_aload_n hx hb dXM_condition_8 rfl (lv_at hl 0 rfl) ?_
        refine lv_iload_n hx hb dXM_condition_9 rfl (lv_at hl 1 rfl) ?_
        refine bw_Vi (wr := []) (As := [.int x1]) (rest := []) ⟨hx, hb, hml, hown, hts⟩ (ctM_isPlausible l D cI h0 a0 a1 a2 a9 _ g3 g4 g5 g6 g7 g8 g10 g11 g12 g13 g14 g15 g16 g17 g18 r0 r1 r2 r9 x1 hin) (cwV 1 hts gXM_condition_XM_isPlausible rfl rfl rfl (by decide +kernel) ⟨Nat.le_of_ble_eq_true rfl, Nat.le_of_ble_eq_true rfl⟩) hK hP hD hS hA (fun _ _ _ _ h => h) (fun _ _ _ => trivial) 0 rfl rfl rfl hl.1 rfl (Nat.le_of_ble_eq_true rfl) dXM_condition_10 ⟨Nat.le_of_ble_eq_true rfl, Nat.le_of_ble_eq_true rfl⟩ (fun q6 u H locs hu hP hD hS => ?_)
        obtain ⟨hr1, rfl⟩ := hu
        subst hr1
        have hP : va_P D vwC2 (wdM cI h0 a0 a1 a2 a9 g3 g4 g5 g6 g7 g8 g10 g11 g12 g13 g14 g15 g16 g17 g18 r0 r1 r2 r9) H := hP
        have hD : va_D A (wdM cI h0 a0 a1 a2 a9 g3 g4 g5 g6 g7 g8 g10 g11 g12 g13 g14 g15 g16 g17 g18 r0 r1 r2 r9) := hD
        refine lv_if_eq (tgt := 38) hx hb dXM_condition_13 (by decide) (fun hc13 => ?_) (fun hc13 => ?_)
        · rw [if_pos hc13] at hX
          unfold bM_condition_38 at hX
          refine lv_iinc (k := 1) (v := x1 + 1) (lv' := [(1, .int (x1 + 1)), (0, .ref h0)]) hx hb dXM_condition_38 hl rfl (bw_inc1 _) (by decide) rfl (fun ls hl => ?_)
          refine lv_goto (tgt := 2) hx hb dXM_condition_41 (by decide) ?_
          exact ih k (by omega) (by omega) g3 g4 g5 g6 g7 g8 g10 g11 g12 g13 g14 g15 g16 g17 g18 r0 r1 r2 r9 (x1 + 1) (bw_nx hi (by omega)) _ _ ls (lv_sub hl [1, 0] rfl) hP hD hS hX
        · rw [if_neg hc13] at hX
          unfold bM_condition_16 at hX
          refine lv_aload_n hx hb dXM_condition_16 rfl (lv_at hl 0 rfl) ?_
          refine va_get (D := D) (ci := 1) (v := .ref a2) (C := RXM) (T := TXM) (N := 19) hx hb hts hinU hown hK hP 0 rfl rfl 2 (by decide) (htM _ wM_7) (fun _ h9 => h9) rfl dXM_condition_17 ?_
          refine lv_iload_n hx hb dXM_condition_20 rfl (lv_at hl 1 rfl) ?_
          refine lv_aload_n hx hb dXM_condition_21 rfl (lv_at hl 0 rfl) ?_
          refine va_get (D := D) (ci := 1) (v := .ref a1) (C := RXM) (T := TXM) (N := 19) hx hb hts hinU hown hK hP 0 rfl rfl 1 (by decide) (htM _ wM_6) (fun _ h9 => h9) rfl dXM_condition_22 ?_
          refine lv_iload_n hx hb dXM_condition_25 rfl (lv_at hl 1 rfl) ?_
          refine va_iald hx hb hK hP 2 0 rfl rfl hin dXM_condition_26 ?_
          refine va_iast hx hb hK hP hD hS 3 0 rfl rfl hin dXM_condition_27 (fun H locs hP hD hS => ?_)
          have hP : va_P D vwC2 (wdM cI h0 a0 a1 a2 a9 g3 g4 g5 g6 g7 g8 g10 g11 g12 g13 g14 g15 g16 g17 g18 r0 r1 (upd r2 x1.toNatClampNeg (r1 x1.toNatClampNeg)) r9) H := hP
          have hD : va_D A (wdM cI h0 a0 a1 a2 a9 g3 g4 g5 g6 g7 g8 g10 g11 g12 g13 g14 g15 g16 g17 g18 r0 r1 (upd r2 x1.toNatClampNeg (r1 x1.toNatClampNeg)) r9) := hD
          refine lv_aload_n hx hb dXM_condition_28 rfl (lv_at hl 0 rfl) ?_
          refine va_get (D := D) (ci := 1) (v := .ref a9) (C := RXM) (T := TXM) (N := 19) hx hb hts hinU hown hK hP 0 rfl rfl 9 (by decide) (htM _ wM_14) (fun _ h9 => h9) rfl dXM_condition_29 ?_
          refine lv_iload_n hx hb dXM_condition_32 rfl (lv_at hl 1 rfl) ?_
          refine lv_aload_n hx hb dXM_condition_33 rfl (lv_at hl 0 rfl) ?_
          refine va_get (D := D) (ci := 1) (v := .int g8) (C := RXM) (T := TXM) (N := 19) hx hb hts hinU hown hK hP 0 rfl rfl 8 (by decide) (htM _ wM_13) (fun _ h9 => h9) rfl dXM_condition_34 ?_
          refine va_iast hx hb hK hP hD hS 4 0 rfl rfl hin dXM_condition_37 (fun H locs hP hD hS => ?_)
          have hP : va_P D vwC2 (wdM cI h0 a0 a1 a2 a9 g3 g4 g5 g6 g7 g8 g10 g11 g12 g13 g14 g15 g16 g17 g18 r0 r1 (upd r2 x1.toNatClampNeg (r1 x1.toNatClampNeg)) (upd r9 x1.toNatClampNeg g8)) H := hP
          have hD : va_D A (wdM cI h0 a0 a1 a2 a9 g3 g4 g5 g6 g7 g8 g10 g11 g12 g13 g14 g15 g16 g17 g18 r0 r1 (upd r2 x1.toNatClampNeg (r1 x1.toNatClampNeg)) (upd r9 x1.toNatClampNeg g8)) := hD
          unfold bM_condition_38 at hX
          refine lv_iinc (k := 1) (v := x1 + 1) (lv' := [(1, .int (x1 + 1)), (0, .ref h0)]) hx hb dXM_condition_38 hl rfl (bw_inc1 _) (by decide) rfl (fun ls hl => ?_)
          refine lv_goto (tgt := 2) hx hb dXM_condition_41 (by decide) ?_
          exact ih k (by omega) (by omega) g3 g4 g5 g6 g7 g8 g10 g11 g12 g13 g14 g15 g16 g17 g18 r0 r1 (upd r2 x1.toNatClampNeg (r1 x1.toNatClampNeg)) (upd r9 x1.toNatClampNeg g8) (x1 + 1) (bw_nx hi (by omega)) _ _ ls (lv_sub hl [1, 0] rfl) hP hD hS hX
  unfold sM_condition at hX
  unfold bM_condition_0 at hX
  refine lv_iconst (v := 0) hx hb dXM_condition_0 (by decide +kernel) ?_
  refine lv_istore_n (lv' := [(1, .int 0), (0, .ref h0)]) hx hb dXM_condition_1 rfl hl (by decide) rfl (fun ls hl => ?_)
  exact JH2 7 6 (by omega) (by omega) g3 g4 g5 g6 g7 g8 g10 g11 g12 g13 g14 g15 g16 g17 g18 r0 r1 r2 r9 0 (by decide +kernel) _ _ ls (lv_sub hl [1, 0] rfl) hP hD hS hX
