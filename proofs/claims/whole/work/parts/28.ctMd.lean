abbrev rmM_one : Room := { frames := 2, cells := 0, slots := 0, locals := 46 }
set_option maxHeartbeats 4000000 in
set_option maxRecDepth 100000 in
theorem ctM_one (l : Launch) (D : va_G) (cI : ClassId) (h0 a0 a1 a2 a9 sz : Nat) (g3 g4 g5 g6 g7 g8 g10 g11 g12 g13 g14 g15 g16 g17 g18 : Int32) (r0 r1 r2 r9 : Nat → Int32)  (hV : hVof r0) : Met l yXM_one wsXM_one rmM_one (va_Pc [.ref h0] (bw_pr D vwC2 [(cI, .int)] (wdM cI h0 a0 a1 a2 a9 g3 g4 g5 g6 g7 g8 g10 g11 g12 g13 g14 g15 g16 g17 g18 r0 r1 r2 r9) sz (fun _ => True))) (va_Qi (fun r u => (r, u) = sM_one g3 g4 g5 g6 g7 g8 g10 g11 g12 g13 g14 g15 g16 g17 g18 r0 r1 r2 r9) (bw_at D vwC2 [(cI, .int)] (wfM cI h0 a0 a1 a2 a9) (va_A (wdM cI h0 a0 a1 a2 a9 g3 g4 g5 g6 g7 g8 g10 g11 g12 g13 g14 g15 g16 g17 g18 r0 r1 r2 r9) sz)) (va_A (wdM cI h0 a0 a1 a2 a9 g3 g4 g5 g6 g7 g8 g10 g11 g12 g13 g14 g15 g16 g17 g18 r0 r1 r2 r9) sz)) 0 0 (va_A (wdM cI h0 a0 a1 a2 a9 g3 g4 g5 g6 g7 g8 g10 g11 g12 g13 g14 g15 g16 g17 g18 r0 r1 r2 r9) sz) := by
  refine Met.ofW (cc := cXM_one) (maxL := 4) (ret := (some .boolean)) (by decide) rfl ?_
  intro p e s m args below meth c s₁ B hml hv
  obtain ⟨rfl, hsz, hP, hK, hD0, hT⟩ := hv
  have hx := B.exec
  have hb := B.bytes
  have hr := B.returns
  have hts := atoms_spec (ws := wsXM_one) B.pre
  have hown : s.vm.findClass RXM = some m.cls := findClass_of_methodNamed B.named
  have hlocks := B.notSynchronized
  subst hsz
  have hD := hD0.self (sz := s.heap.size)
  generalize hAe : va_A (wdM cI h0 a0 a1 a2 a9 g3 g4 g5 g6 g7 g8 g10 g11 g12 g13 g14 g15 g16 g17 g18 r0 r1 r2 r9) s.heap.size = A at hD hT ⊢
  have hA : ∀ q : Nat, s.heap.size ≤ q → A q := fun q h => by rw [← hAe]; exact Or.inr h
  have hS : va_S A s.heap s.heap [] := va_S.rf
  have hl := lv_entry ([.ref h0]) (n := 4) (Nat.le_of_ble_eq_true rfl)
  rw [lg_entry_eq]
  generalize (lg_sl ([.ref h0]) ++ List.replicate (4 - (lg_sl ([.ref h0])).length) Slot.unset).toArray = ls at hl ⊢
  have hl : lv_has ls 4 [(0, .ref h0)] := hl
  generalize hX : sM_one g3 g4 g5 g6 g7 g8 g10 g11 g12 g13 g14 g15 g16 g17 g18 r0 r1 r2 r9 = X
  refine bw_Q (fun Q hQ => ?_)
  have hinU : ∀ w ∈ wsXM0, w ∈ wsXM_one := fun w h => List.mem_cons_of_mem _ (List.mem_append_right _ h)
  have htM := fun w h => hts w (List.mem_cons_of_mem _ (List.mem_append_left _ h))
  have J190 : ∀ (g3 g4 g5 g6 g7 g8 g10 g11 g12 g13 g14 g15 g16 g17 g18 : Int32) (r0 r1 r2 r9 : Nat → Int32) (H : Heap) (locs : List Loc) (ls : Array Slot), lv_has ls 4 [(0, .ref h0)] → va_P D vwC2 (wdM cI h0 a0 a1 a2 a9 g3 g4 g5 g6 g7 g8 g10 g11 g12 g13 g14 g15 g16 g17 g18 r0 r1 r2 r9) H → va_D A (wdM cI h0 a0 a1 a2 a9 g3 g4 g5 g6 g7 g8 g10 g11 g12 g13 g14 g15 g16 g17 g18 r0 r1 r2 r9) → va_S A s.heap H locs → bM_one_190 g3 g4 g5 g6 g7 g8 g10 g11 g12 g13 g14 g15 g16 g17 g18 r0 r1 r2 r9 = X → W p l e (headSpec wsXM_one rmM_one).room s m ([.ref h0] : List Value).toArray below meth c H locs 0 0 Q (F0 m 190 ls []) := by
    intro g3 g4 g5 g6 g7 g8 g10 g11 g12 g13 g14 g15 g16 g17 g18 r0 r1 r2 r9 H locs ls hl hP hD hS hX
    unfold bM_one_190 at hX
    refine lv_iconst (v := 1) hx hb dXM_one_190 (by decide +kernel) ?_
    refine lv_goto (tgt := 195) hx hb dXM_one_191 (by decide) ?_
    subst hQ
    exact W.zret (ty := .boolean) (v := 1) hx hb hr (by decide +kernel) (fun t ht hW => ⟨⟨1, (g3, g4, g5, g6, g7, g8, g10, g11, g12, g13, g14, g15, g16, g17, g18, r0, r1, r2, r9), rfl, hX, by rw [ht]; exact hP, va_K.moved hW.alike hK, hD⟩, hS.F ht⟩) hS.2.2 dXM_one_195
  have J178 : ∀ (g3 g4 g5 g6 g7 g8 g10 g11 g12 g13 g14 g15 g16 g17 g18 : Int32) (r0 r1 r2 r9 : Nat → Int32) (x1 : Int32) (x3 : Int32) (H : Heap) (locs : List Loc) (ls : Array Slot), lv_has ls 4 [(0, .ref h0), (1, .int x1), (3, .int x3)] → va_P D vwC2 (wdM cI h0 a0 a1 a2 a9 g3 g4 g5 g6 g7 g8 g10 g11 g12 g13 g14 g15 g16 g17 g18 r0 r1 r2 r9) H → va_D A (wdM cI h0 a0 a1 a2 a9 g3 g4 g5 g6 g7 g8 g10 g11 g12 g13 g14 g15 g16 g17 g18 r0 r1 r2 r9) → va_S A s.heap H locs → bM_one_178 g3 g4 g5 g6 g7 g8 g10 g11 g12 g13 g14 g15 g16 g17 g18 r0 r1 r2 r9 x1 x3 = X → W p l e (headSpec wsXM_one rmM_one).room s m ([.ref h0] : List Value).toArray below meth c H locs 0 0 Q (F0 m 178 ls []) := by
    intro g3 g4 g5 g6 g7 g8 g10 g11 g12 g13 g14 g15 g16 g17 g18 r0 r1 r2 r9 x1 x3 H locs ls hl hP hD hS hX
    unfold bM_one_178 at hX
    refine lv_iload_n hx hb dXM_one_178 rfl (lv_at hl 2 rfl) ?_
    refine lv_if_ne (tgt := 190) hx hb dXM_one_179 (by decide) (fun hc179 => ?_) (fun hc179 => ?_)
    · rw [if_neg hc179] at hX
      exact J190 g3 g4 g5 g6 g7 g8 g10 g11 g12 g13 g14 g15 g16 g17 g18 r0 r1 r2 r9 _ _ ls (lv_sub hl [0] rfl) hP hD hS hX
    · rw [if_pos hc179] at hX
      unfold bM_one_182 at hX
      refine lv_aload_n hx hb dXM_one_182 rfl (lv_at hl 0 rfl) ?_
      refine va_get (D := D) (ci := 1) (v := .int g4) (C := RXM) (T := TXM) (N := 19) hx hb hts hinU hown hK hP 0 rfl rfl 4 (by decide) (htM _ wM_9) (fun _ h9 => h9) rfl dXM_one_183 ?_
      refine lv_iload_n hx hb dXM_one_186 rfl (lv_at hl 1 rfl) ?_
      refine lv_icmp_eq (tgt := 194) hx hb dXM_one_187 (by decide) (fun hc187 => ?_) (fun hc187 => ?_)
      · rw [if_pos hc187] at hX
        unfold bM_one_194 at hX
        refine lv_iconst (v := 0) hx hb dXM_one_194 (by decide +kernel) ?_
        subst hQ
        exact W.zret (ty := .boolean) (v := 0) hx hb hr (by decide +kernel) (fun t ht hW => ⟨⟨0, (g3, g4, g5, g6, g7, g8, g10, g11, g12, g13, g14, g15, g16, g17, g18, r0, r1, r2, r9), rfl, hX, by rw [ht]; exact hP, va_K.moved hW.alike hK, hD⟩, hS.F ht⟩) hS.2.2 dXM_one_195
      · rw [if_neg hc187] at hX
        exact J190 g3 g4 g5 g6 g7 g8 g10 g11 g12 g13 g14 g15 g16 g17 g18 r0 r1 r2 r9 _ _ ls (lv_sub hl [0] rfl) hP hD hS hX
  have J168 : ∀ (g3 g4 g5 g6 g7 g8 g10 g11 g12 g13 g14 g15 g16 g17 g18 : Int32) (r0 r1 r2 r9 : Nat → Int32) (x1 : Int32) (y0 : Int32) (H : Heap) (locs : List Loc) (ls : Array Slot), lv_has ls 4 [(0, .ref h0), (1, .int x1)] → va_P D vwC2 (wdM cI h0 a0 a1 a2 a9 g3 g4 g5 g6 g7 g8 g10 g11 g12 g13 g14 g15 g16 g17 g18 r0 r1 r2 r9) H → va_D A (wdM cI h0 a0 a1 a2 a9 g3 g4 g5 g6 g7 g8 g10 g11 g12 g13 g14 g15 g16 g17 g18 r0 r1 r2 r9) → va_S A s.heap H locs → bM_one_168 g3 g4 g5 g6 g7 g8 g10 g11 g12 g13 g14 g15 g16 g17 g18 r0 r1 r2 r9 x1 y0 = X → W p l e (headSpec wsXM_one rmM_one).room s m ([.ref h0] : List Value).toArray below meth c H locs 0 0 Q (F0 m 168 ls [.int y0]) := by
    intro g3 g4 g5 g6 g7 g8 g10 g11 g12 g13 g14 g15 g16 g17 g18 r0 r1 r2 r9 x1 y0 H locs ls hl hP hD hS hX
    unfold bM_one_168 at hX
    refine lv_istore_n (lv' := [(3, .int y0), (0, .ref h0), (1, .int x1)]) hx hb dXM_one_168 rfl hl (by decide) rfl (fun ls hl => ?_)
    refine lv_iload_n hx hb dXM_one_169 rfl (lv_at hl 0 rfl) ?_
    refine lv_if_eq (tgt := 178) hx hb dXM_one_170 (by decide) (fun hc170 => ?_) (fun hc170 => ?_)
    · rw [if_pos hc170] at hX
      exact J178 g3 g4 g5 g6 g7 g8 g10 g11 g12 g13 g14 g15 g16 g17 g18 r0 r1 r2 r9 x1 y0 _ _ ls (lv_sub hl [1, 2, 0] rfl) hP hD hS hX
    · rw [if_neg hc170] at hX
      unfold bM_one_173 at hX
      refine lv_aload_n hx hb dXM_one_173 rfl (lv_at hl 1 rfl) ?_
      refine lv_iconst (v := 4) hx hb dXM_one_174 (by decide +kernel) ?_
      refine bw_Vv (wr := []) (As := [.int 4]) (rest := []) ⟨hx, hb, hml, hown, hts⟩ (ctM_enter l D cI h0 a0 a1 a2 a9 _ g3 g4 g5 g6 g7 g8 g10 g11 g12 g13 g14 g15 g16 g17 g18 r0 r1 r2 r9 4) (cwV 1 hts gXM_one_XM_enter rfl rfl rfl (by decide +kernel) ⟨Nat.le_of_ble_eq_true rfl, Nat.le_of_ble_eq_true rfl⟩) hK hP hD hS hA (fun _ _ _ _ h => h) (fun _ _ _ => trivial) 0 rfl rfl rfl hl.1 rfl (Nat.le_of_ble_eq_true rfl) dXM_one_175 ⟨Nat.le_of_ble_eq_true rfl, Nat.le_of_ble_eq_true rfl⟩ (fun u H locs hu hP hD hS => ?_)
      obtain ⟨g3c1, g4c1, g5c1, g6c1, g7c1, g8c1, g10c1, g11c1, g12c1, g13c1, g14c1, g15c1, g16c1, g17c1, g18c1, r0c1, r1c1, r2c1, r9c1⟩ := u
      have hu1 := hu
      rw [← hu] at hX
      have hP : va_P D vwC2 (wdM cI h0 a0 a1 a2 a9 g3c1 g4c1 g5c1 g6c1 g7c1 g8c1 g10c1 g11c1 g12c1 g13c1 g14c1 g15c1 g16c1 g17c1 g18c1 r0c1 r1c1 r2c1 r9c1) H := hP
      have hD : va_D A (wdM cI h0 a0 a1 a2 a9 g3c1 g4c1 g5c1 g6c1 g7c1 g8c1 g10c1 g11c1 g12c1 g13c1 g14c1 g15c1 g16c1 g17c1 g18c1 r0c1 r1c1 r2c1 r9c1) := hD
      have hX : bM_one_178 g3c1 g4c1 g5c1 g6c1 g7c1 g8c1 g10c1 g11c1 g12c1 g13c1 g14c1 g15c1 g16c1 g17c1 g18c1 r0c1 r1c1 r2c1 r9c1 x1 y0 = X := hX
      exact J178 g3c1 g4c1 g5c1 g6c1 g7c1 g8c1 g10c1 g11c1 g12c1 g13c1 g14c1 g15c1 g16c1 g17c1 g18c1 r0c1 r1c1 r2c1 r9c1 x1 y0 _ _ ls (lv_sub hl [1, 2, 0] rfl) hP hD hS hX
  have J167 : ∀ (g3 g4 g5 g6 g7 g8 g10 g11 g12 g13 g14 g15 g16 g17 g18 : Int32) (r0 r1 r2 r9 : Nat → Int32) (x1 : Int32) (H : Heap) (locs : List Loc) (ls : Array Slot), lv_has ls 4 [(0, .ref h0), (1, .int x1)] → va_P D vwC2 (wdM cI h0 a0 a1 a2 a9 g3 g4 g5 g6 g7 g8 g10 g11 g12 g13 g14 g15 g16 g17 g18 r0 r1 r2 r9) H → va_D A (wdM cI h0 a0 a1 a2 a9 g3 g4 g5 g6 g7 g8 g10 g11 g12 g13 g14 g15 g16 g17 g18 r0 r1 r2 r9) → va_S A s.heap H locs → bM_one_167 g3 g4 g5 g6 g7 g8 g10 g11 g12 g13 g14 g15 g16 g17 g18 r0 r1 r2 r9 x1 = X → W p l e (headSpec wsXM_one rmM_one).room s m ([.ref h0] : List Value).toArray below meth c H locs 0 0 Q (F0 m 167 ls []) := by
    intro g3 g4 g5 g6 g7 g8 g10 g11 g12 g13 g14 g15 g16 g17 g18 r0 r1 r2 r9 x1 H locs ls hl hP hD hS hX
    unfold bM_one_167 at hX
    refine lv_iconst (v := 0) hx hb dXM_one_167 (by decide +kernel) ?_
    exact J168 g3 g4 g5 g6 g7 g8 g10 g11 g12 g13 g14 g15 g16 g17 g18 r0 r1 r2 r9 x1 0 _ _ ls (lv_sub hl [0, 1] rfl) hP hD hS hX
  have J138 : ∀ (g3 g4 g5 g6 g7 g8 g10 g11 g12 g13 g14 g15 g16 g17 g18 : Int32) (r0 r1 r2 r9 : Nat → Int32) (x1 : Int32) (H : Heap) (locs : List Loc) (ls : Array Slot), lv_has ls 4 [(0, .ref h0), (1, .int x1)] → va_P D vwC2 (wdM cI h0 a0 a1 a2 a9 g3 g4 g5 g6 g7 g8 g10 g11 g12 g13 g14 g15 g16 g17 g18 r0 r1 r2 r9) H → va_D A (wdM cI h0 a0 a1 a2 a9 g3 g4 g5 g6 g7 g8 g10 g11 g12 g13 g14 g15 g16 g17 g18 r0 r1 r2 r9) → va_S A s.heap H locs → bM_one_138 g3 g4 g5 g6 g7 g8 g10 g11 g12 g13 g14 g15 g16 g17 g18 r0 r1 r2 r9 x1 = X → W p l e (headSpec wsXM_one rmM_one).room s m ([.ref h0] : List Value).toArray below meth c H locs 0 0 Q (F0 m 138 ls []) := by
    intro g3 g4 g5 g6 g7 g8 g10 g11 g12 g13 g14 g15 g16 g17 g18 r0 r1 r2 r9 x1 H locs ls hl hP hD hS hX
    unfold bM_one_138 at hX
    refine lv_aload_n hx hb dXM_one_138 rfl (lv_at hl 0 rfl) ?_
    refine va_get (D := D) (ci := 1) (v := .int g3) (C := RXM) (T := TXM) (N := 19) hx hb hts hinU hown hK hP 0 rfl rfl 3 (by decide) (htM _ wM_8) (fun _ h9 => h9) rfl dXM_one_139 ?_
    refine lv_iconst (v := 3) hx hb dXM_one_142 (by decide +kernel) ?_
    refine lv_icmp_ne (tgt := 167) hx hb dXM_one_143 (by decide) (fun hc143 => ?_) (fun hc143 => ?_)
    · rw [if_neg hc143] at hX
      exact J167 g3 g4 g5 g6 g7 g8 g10 g11 g12 g13 g14 g15 g16 g17 g18 r0 r1 r2 r9 x1 _ _ ls (lv_sub hl [0, 1] rfl) hP hD hS hX
    · rw [if_pos hc143] at hX
      unfold bM_one_146 at hX
      refine lv_aload_n hx hb dXM_one_146 rfl (lv_at hl 0 rfl) ?_
      refine va_get (D := D) (ci := 1) (v := .int g14) (C := RXM) (T := TXM) (N := 19) hx hb hts hinU hown hK hP 0 rfl rfl 14 (by decide) (htM _ wM_19) (fun _ h9 => h9) rfl dXM_one_147 ?_
      refine lv_sipush (v := 600) hx hb dXM_one_150 (by decide +kernel) ?_
      refine lv_aload_n hx hb dXM_one_153 rfl (lv_at hl 0 rfl) ?_
      refine va_get (D := D) (ci := 1) (v := .ref a0) (C := RXM) (T := TXM) (N := 19) hx hb hts hinU hown hK hP 0 rfl rfl 0 (by decide) (htM _ wM_5) (fun _ h9 => h9) rfl dXM_one_154 ?_
      refine lv_iconst (v := 3) hx hb dXM_one_157 (by decide +kernel) ?_
      refine bw_ld hx hb hK hP 1 0 rfl rfl 3 (by decide +kernel) (bw_in (by decide +kernel)) dXM_one_158 ?_
      refine lv_imul hx hb dXM_one_159 ?_
      refine lv_icmp_ne (tgt := 167) hx hb dXM_one_160 (by decide) (fun hc160 => ?_) (fun hc160 => ?_)
      · rw [if_neg hc160] at hX
        exact J167 g3 g4 g5 g6 g7 g8 g10 g11 g12 g13 g14 g15 g16 g17 g18 r0 r1 r2 r9 x1 _ _ ls (lv_sub hl [0, 1] rfl) hP hD hS hX
      · rw [if_pos hc160] at hX
        unfold bM_one_163 at hX
        refine lv_iconst (v := 1) hx hb dXM_one_163 (by decide +kernel) ?_
        refine lv_goto (tgt := 168) hx hb dXM_one_164 (by decide) ?_
        exact J168 g3 g4 g5 g6 g7 g8 g10 g11 g12 g13 g14 g15 g16 g17 g18 r0 r1 r2 r9 x1 1 _ _ ls (lv_sub hl [0, 1] rfl) hP hD hS hX
  have J128 : ∀ (g3 g4 g5 g6 g7 g8 g10 g11 g12 g13 g14 g15 g16 g17 g18 : Int32) (r0 r1 r2 r9 : Nat → Int32) (x1 : Int32) (H : Heap) (locs : List Loc) (ls : Array Slot), lv_has ls 4 [(0, .ref h0), (1, .int x1)] → va_P D vwC2 (wdM cI h0 a0 a1 a2 a9 g3 g4 g5 g6 g7 g8 g10 g11 g12 g13 g14 g15 g16 g17 g18 r0 r1 r2 r9) H → va_D A (wdM cI h0 a0 a1 a2 a9 g3 g4 g5 g6 g7 g8 g10 g11 g12 g13 g14 g15 g16 g17 g18 r0 r1 r2 r9) → va_S A s.heap H locs → bM_one_128 g3 g4 g5 g6 g7 g8 g10 g11 g12 g13 g14 g15 g16 g17 g18 r0 r1 r2 r9 x1 = X → W p l e (headSpec wsXM_one rmM_one).room s m ([.ref h0] : List Value).toArray below meth c H locs 0 0 Q (F0 m 128 ls []) := by
    intro g3 g4 g5 g6 g7 g8 g10 g11 g12 g13 g14 g15 g16 g17 g18 r0 r1 r2 r9 x1 H locs ls hl hP hD hS hX
    unfold bM_one_128 at hX
    refine lv_aload_n hx hb dXM_one_128 rfl (lv_at hl 0 rfl) ?_
    refine lv_dup hx hb dXM_one_129 rfl ?_
    refine va_get (D := D) (ci := 1) (v := .int g18) (C := RXM) (T := TXM) (N := 19) hx hb hts hinU hown hK hP 0 rfl rfl 18 (by decide) (htM _ wM_23) (fun _ h9 => h9) rfl dXM_one_130 ?_
    refine lv_iconst (v := 1) hx hb dXM_one_133 (by decide +kernel) ?_
    refine lv_iadd hx hb dXM_one_134 ?_
    refine va_put (D := D) (ci := 1) (v := .int (g18 + 1)) (ty := .int) (C := RXM) (T := TXM) (N := 19) hx hb hts hinU tyXM tyXM_ok nmXM hown hK hP hD hS 0 rfl rfl 18 (by decide) (htM _ wM_23) (fun _ h9 => h9) rfl (by decide +kernel) rfl rfl (Nat.le_of_ble_eq_true rfl) dXM_one_135 (fun H locs hP hD hS => ?_)
    have hP : va_P D vwC2 (wdM cI h0 a0 a1 a2 a9 g3 g4 g5 g6 g7 g8 g10 g11 g12 g13 g14 g15 g16 g17 (g18 + 1) r0 r1 r2 r9) H := hP
    have hD : va_D A (wdM cI h0 a0 a1 a2 a9 g3 g4 g5 g6 g7 g8 g10 g11 g12 g13 g14 g15 g16 g17 (g18 + 1) r0 r1 r2 r9) := hD
    exact J138 g3 g4 g5 g6 g7 g8 g10 g11 g12 g13 g14 g15 g16 g17 (g18 + 1) r0 r1 r2 r9 x1 _ _ ls (lv_sub hl [0, 1] rfl) hP hD hS hX
  have J120 : ∀ (g3 g4 g5 g6 g7 g8 g10 g11 g12 g13 g14 g15 g16 g17 g18 : Int32) (r0 r1 r2 r9 : Nat → Int32) (x1 : Int32) (H : Heap) (locs : List Loc) (ls : Array Slot), lv_has ls 4 [(0, .ref h0), (1, .int x1)] → va_P D vwC2 (wdM cI h0 a0 a1 a2 a9 g3 g4 g5 g6 g7 g8 g10 g11 g12 g13 g14 g15 g16 g17 g18 r0 r1 r2 r9) H → va_D A (wdM cI h0 a0 a1 a2 a9 g3 g4 g5 g6 g7 g8 g10 g11 g12 g13 g14 g15 g16 g17 g18 r0 r1 r2 r9) → va_S A s.heap H locs → bM_one_120 g3 g4 g5 g6 g7 g8 g10 g11 g12 g13 g14 g15 g16 g17 g18 r0 r1 r2 r9 x1 = X → W p l e (headSpec wsXM_one rmM_one).room s m ([.ref h0] : List Value).toArray below meth c H locs 0 0 Q (F0 m 120 ls []) := by
    intro g3 g4 g5 g6 g7 g8 g10 g11 g12 g13 g14 g15 g16 g17 g18 r0 r1 r2 r9 x1 H locs ls hl hP hD hS hX
    unfold bM_one_120 at hX
    refine lv_aload_n hx hb dXM_one_120 rfl (lv_at hl 0 rfl) ?_
    refine va_get (D := D) (ci := 1) (v := .int g3) (C := RXM) (T := TXM) (N := 19) hx hb hts hinU hown hK hP 0 rfl rfl 3 (by decide) (htM _ wM_8) (fun _ h9 => h9) rfl dXM_one_121 ?_
    refine lv_iconst (v := 5) hx hb dXM_one_124 (by decide +kernel) ?_
    refine lv_icmp_ne (tgt := 138) hx hb dXM_one_125 (by decide) (fun hc125 => ?_) (fun hc125 => ?_)
    · rw [if_neg hc125] at hX
      exact J138 g3 g4 g5 g6 g7 g8 g10 g11 g12 g13 g14 g15 g16 g17 g18 r0 r1 r2 r9 x1 _ _ ls (lv_sub hl [0, 1] rfl) hP hD hS hX
    · rw [if_pos hc125] at hX
      exact J128 g3 g4 g5 g6 g7 g8 g10 g11 g12 g13 g14 g15 g16 g17 g18 r0 r1 r2 r9 x1 _ _ ls (lv_sub hl [0, 1] rfl) hP hD hS hX
  have J111 : ∀ (g3 g4 g5 g6 g7 g8 g10 g11 g12 g13 g14 g15 g16 g17 g18 : Int32) (r0 r1 r2 r9 : Nat → Int32) (x1 : Int32) (H : Heap) (locs : List Loc) (ls : Array Slot), lv_has ls 4 [(0, .ref h0), (1, .int x1)] → va_P D vwC2 (wdM cI h0 a0 a1 a2 a9 g3 g4 g5 g6 g7 g8 g10 g11 g12 g13 g14 g15 g16 g17 g18 r0 r1 r2 r9) H → va_D A (wdM cI h0 a0 a1 a2 a9 g3 g4 g5 g6 g7 g8 g10 g11 g12 g13 g14 g15 g16 g17 g18 r0 r1 r2 r9) → va_S A s.heap H locs → bM_one_111 g3 g4 g5 g6 g7 g8 g10 g11 g12 g13 g14 g15 g16 g17 g18 r0 r1 r2 r9 x1 = X → W p l e (headSpec wsXM_one rmM_one).room s m ([.ref h0] : List Value).toArray below meth c H locs 0 0 Q (F0 m 111 ls []) := by
    intro g3 g4 g5 g6 g7 g8 g10 g11 g12 g13 g14 g15 g16 g17 g18 r0 r1 r2 r9 x1 H locs ls hl hP hD hS hX
    unfold bM_one_111 at hX
    refine lv_aload_n hx hb dXM_one_111 rfl (lv_at hl 0 rfl) ?_
    refine va_get (D := D) (ci := 1) (v := .int g6) (C := RXM) (T := TXM) (N := 19) hx hb hts hinU hown hK hP 0 rfl rfl 6 (by decide) (htM _ wM_11) (fun _ h9 => h9) rfl dXM_one_112 ?_
    refine lv_iconst (v := 1) hx hb dXM_one_115 (by decide +kernel) ?_
    refine lv_iand hx hb dXM_one_116 ?_
    refine lv_if_ne (tgt := 128) hx hb dXM_one_117 (by decide) (fun hc117 => ?_) (fun hc117 => ?_)
    · rw [if_neg hc117] at hX
      exact J128 g3 g4 g5 g6 g7 g8 g10 g11 g12 g13 g14 g15 g16 g17 g18 r0 r1 r2 r9 x1 _ _ ls (lv_sub hl [0, 1] rfl) hP hD hS hX
    · rw [if_pos hc117] at hX
      exact J120 g3 g4 g5 g6 g7 g8 g10 g11 g12 g13 g14 g15 g16 g17 g18 r0 r1 r2 r9 x1 _ _ ls (lv_sub hl [0, 1] rfl) hP hD hS hX
  have J92 : ∀ (g3 g4 g5 g6 g7 g8 g10 g11 g12 g13 g14 g15 g16 g17 g18 : Int32) (r0 r1 r2 r9 : Nat → Int32) (x1 : Int32) (y0 : Int32) (H : Heap) (locs : List Loc) (ls : Array Slot), lv_has ls 4 [(0, .ref h0), (1, .int x1)] → va_P D vwC2 (wdM cI h0 a0 a1 a2 a9 g3 g4 g5 g6 g7 g8 g10 g11 g12 g13 g14 g15 g16 g17 g18 r0 r1 r2 r9) H → va_D A (wdM cI h0 a0 a1 a2 a9 g3 g4 g5 g6 g7 g8 g10 g11 g12 g13 g14 g15 g16 g17 g18 r0 r1 r2 r9) → va_S A s.heap H locs → bM_one_92 g3 g4 g5 g6 g7 g8 g10 g11 g12 g13 g14 g15 g16 g17 g18 r0 r1 r2 r9 x1 y0 = X → W p l e (headSpec wsXM_one rmM_one).room s m ([.ref h0] : List Value).toArray below meth c H locs 0 0 Q (F0 m 92 ls [.int y0, .ref h0]) := by
    intro g3 g4 g5 g6 g7 g8 g10 g11 g12 g13 g14 g15 g16 g17 g18 r0 r1 r2 r9 x1 y0 H locs ls hl hP hD hS hX
    unfold bM_one_92 at hX
    refine va_put (D := D) (ci := 1) (v := .int y0) (ty := .int) (C := RXM) (T := TXM) (N := 19) hx hb hts hinU tyXM tyXM_ok nmXM hown hK hP hD hS 0 rfl rfl 16 (by decide) (htM _ wM_21) (fun _ h9 => h9) rfl (by decide +kernel) rfl rfl (Nat.le_of_ble_eq_true rfl) dXM_one_92 (fun H locs hP hD hS => ?_)
    have hP : va_P D vwC2 (wdM cI h0 a0 a1 a2 a9 g3 g4 g5 g6 g7 g8 g10 g11 g12 g13 g14 g15 y0 g17 g18 r0 r1 r2 r9) H := hP
    have hD : va_D A (wdM cI h0 a0 a1 a2 a9 g3 g4 g5 g6 g7 g8 g10 g11 g12 g13 g14 g15 y0 g17 g18 r0 r1 r2 r9) := hD
    refine lv_aload_n hx hb dXM_one_95 rfl (lv_at hl 0 rfl) ?_
    refine va_get (D := D) (ci := 1) (v := .int g3) (C := RXM) (T := TXM) (N := 19) hx hb hts hinU hown hK hP 0 rfl rfl 3 (by decide) (htM _ wM_8) (fun _ h9 => h9) rfl dXM_one_96 ?_
    refine lv_iconst (v := 1) hx hb dXM_one_99 (by decide +kernel) ?_
    refine lv_icmp_eq (tgt := 111) hx hb dXM_one_100 (by decide) (fun hc100 => ?_) (fun hc100 => ?_)
    · rw [if_pos hc100] at hX
      exact J111 g3 g4 g5 g6 g7 g8 g10 g11 g12 g13 g14 g15 y0 g17 g18 r0 r1 r2 r9 x1 _ _ ls (lv_sub hl [0, 1] rfl) hP hD hS hX
    · rw [if_neg hc100] at hX
      unfold bM_one_103 at hX
      refine lv_aload_n hx hb dXM_one_103 rfl (lv_at hl 0 rfl) ?_
      refine va_get (D := D) (ci := 1) (v := .int g3) (C := RXM) (T := TXM) (N := 19) hx hb hts hinU hown hK hP 0 rfl rfl 3 (by decide) (htM _ wM_8) (fun _ h9 => h9) rfl dXM_one_104 ?_
      refine lv_iconst (v := 4) hx hb dXM_one_107 (by decide +kernel) ?_
      refine lv_icmp_ne (tgt := 120) hx hb dXM_one_108 (by decide) (fun hc108 => ?_) (fun hc108 => ?_)
      · rw [if_neg hc108] at hX
        exact J120 g3 g4 g5 g6 g7 g8 g10 g11 g12 g13 g14 g15 y0 g17 g18 r0 r1 r2 r9 x1 _ _ ls (lv_sub hl [0, 1] rfl) hP hD hS hX
      · rw [if_pos hc108] at hX
        exact J111 g3 g4 g5 g6 g7 g8 g10 g11 g12 g13 g14 g15 y0 g17 g18 r0 r1 r2 r9 x1 _ _ ls (lv_sub hl [0, 1] rfl) hP hD hS hX
  have J62 : ∀ (g3 g4 g5 g6 g7 g8 g10 g11 g12 g13 g14 g15 g16 g17 g18 : Int32) (r0 r1 r2 r9 : Nat → Int32) (x1 : Int32) (y0 : Int32) (H : Heap) (locs : List Loc) (ls : Array Slot), lv_has ls 4 [(0, .ref h0), (1, .int x1)] → va_P D vwC2 (wdM cI h0 a0 a1 a2 a9 g3 g4 g5 g6 g7 g8 g10 g11 g12 g13 g14 g15 g16 g17 g18 r0 r1 r2 r9) H → va_D A (wdM cI h0 a0 a1 a2 a9 g3 g4 g5 g6 g7 g8 g10 g11 g12 g13 g14 g15 g16 g17 g18 r0 r1 r2 r9) → va_S A s.heap H locs → bM_one_62 g3 g4 g5 g6 g7 g8 g10 g11 g12 g13 g14 g15 g16 g17 g18 r0 r1 r2 r9 x1 y0 = X → W p l e (headSpec wsXM_one rmM_one).room s m ([.ref h0] : List Value).toArray below meth c H locs 0 0 Q (F0 m 62 ls [.int y0, .ref h0, .ref h0]) := by
    intro g3 g4 g5 g6 g7 g8 g10 g11 g12 g13 g14 g15 g16 g17 g18 r0 r1 r2 r9 x1 y0 H locs ls hl hP hD hS hX
    unfold bM_one_62 at hX
    refine bw_Vi (wr := []) (As := [.int y0]) (rest := [.ref h0]) ⟨hx, hb, hml, hown, hts⟩ (ctM_guarded l D cI h0 a0 a1 a2 a9 _ g3 g4 g5 g6 g7 g8 g10 g11 g12 g13 g14 g15 g16 g17 g18 r0 r1 r2 r9 y0) (cwV 1 hts gXM_one_XM_guarded rfl rfl rfl (by decide +kernel) ⟨Nat.le_of_ble_eq_true rfl, Nat.le_of_ble_eq_true rfl⟩) hK hP hD hS hA (fun _ _ _ _ h => h) (fun _ _ _ => trivial) 0 rfl rfl rfl hl.1 rfl (Nat.le_of_ble_eq_true rfl) dXM_one_62 ⟨Nat.le_of_ble_eq_true rfl, Nat.le_of_ble_eq_true rfl⟩ (fun q2 u H locs hu hP hD hS => ?_)
    obtain ⟨g3c2, g4c2, g5c2, g6c2, g7c2, g8c2, g10c2, g11c2, g12c2, g13c2, g14c2, g15c2, g16c2, g17c2, g18c2, r0c2, r1c2, r2c2, r9c2⟩ := u
    have hu2 := hu
    rw [← hu] at hX
    have hP : va_P D vwC2 (wdM cI h0 a0 a1 a2 a9 g3c2 g4c2 g5c2 g6c2 g7c2 g8c2 g10c2 g11c2 g12c2 g13c2 g14c2 g15c2 g16c2 g17c2 g18c2 r0c2 r1c2 r2c2 r9c2) H := hP
    have hD : va_D A (wdM cI h0 a0 a1 a2 a9 g3c2 g4c2 g5c2 g6c2 g7c2 g8c2 g10c2 g11c2 g12c2 g13c2 g14c2 g15c2 g16c2 g17c2 g18c2 r0c2 r1c2 r2c2 r9c2) := hD
    have hX : bM_one_65 g3c2 g4c2 g5c2 g6c2 g7c2 g8c2 g10c2 g11c2 g12c2 g13c2 g14c2 g15c2 g16c2 g17c2 g18c2 r0c2 r1c2 r2c2 r9c2 x1 q2 = X := hX
    unfold bM_one_65 at hX
    refine va_put (D := D) (ci := 1) (v := .int q2) (ty := .int) (C := RXM) (T := TXM) (N := 19) hx hb hts hinU tyXM tyXM_ok nmXM hown hK hP hD hS 0 rfl rfl 6 (by decide) (htM _ wM_11) (fun _ h9 => h9) rfl (by decide +kernel) rfl rfl (Nat.le_of_ble_eq_true rfl) dXM_one_65 (fun H locs hP hD hS => ?_)
    have hP : va_P D vwC2 (wdM cI h0 a0 a1 a2 a9 g3c2 g4c2 g5c2 q2 g7c2 g8c2 g10c2 g11c2 g12c2 g13c2 g14c2 g15c2 g16c2 g17c2 g18c2 r0c2 r1c2 r2c2 r9c2) H := hP
    have hD : va_D A (wdM cI h0 a0 a1 a2 a9 g3c2 g4c2 g5c2 q2 g7c2 g8c2 g10c2 g11c2 g12c2 g13c2 g14c2 g15c2 g16c2 g17c2 g18c2 r0c2 r1c2 r2c2 r9c2) := hD
    refine lv_aload_n hx hb dXM_one_68 rfl (lv_at hl 0 rfl) ?_
    refine lv_aload_n hx hb dXM_one_69 rfl (lv_at hl 0 rfl) ?_
    refine va_get (D := D) (ci := 1) (v := .int q2) (C := RXM) (T := TXM) (N := 19) hx hb hts hinU hown hK hP 0 rfl rfl 6 (by decide) (htM _ wM_11) (fun _ h9 => h9) rfl dXM_one_70 ?_
    refine lv_bipush (v := 8) hx hb dXM_one_73 (by decide +kernel) ?_
    refine lv_iand hx hb dXM_one_75 ?_
    refine lv_if_eq (tgt := 88) hx hb dXM_one_76 (by decide) (fun hc76 => ?_) (fun hc76 => ?_)
    · rw [if_pos hc76] at hX
      unfold bM_one_88 at hX
      refine lv_aload_n hx hb dXM_one_88 rfl (lv_at hl 0 rfl) ?_
      refine va_get (D := D) (ci := 1) (v := .int g16c2) (C := RXM) (T := TXM) (N := 19) hx hb hts hinU hown hK hP 0 rfl rfl 16 (by decide) (htM _ wM_21) (fun _ h9 => h9) rfl dXM_one_89 ?_
      exact J92 g3c2 g4c2 g5c2 q2 g7c2 g8c2 g10c2 g11c2 g12c2 g13c2 g14c2 g15c2 g16c2 g17c2 g18c2 r0c2 r1c2 r2c2 r9c2 x1 g16c2 _ _ ls (lv_sub hl [0, 1] rfl) hP hD hS hX
    · rw [if_neg hc76] at hX
      unfold bM_one_79 at hX
      refine lv_aload_n hx hb dXM_one_79 rfl (lv_at hl 0 rfl) ?_
      refine va_get (D := D) (ci := 1) (v := .int g16c2) (C := RXM) (T := TXM) (N := 19) hx hb hts hinU hown hK hP 0 rfl rfl 16 (by decide) (htM _ wM_21) (fun _ h9 => h9) rfl dXM_one_80 ?_
      refine lv_iconst (v := 1) hx hb dXM_one_83 (by decide +kernel) ?_
      refine lv_iadd hx hb dXM_one_84 ?_
      refine lv_goto (tgt := 92) hx hb dXM_one_85 (by decide) ?_
      exact J92 g3c2 g4c2 g5c2 q2 g7c2 g8c2 g10c2 g11c2 g12c2 g13c2 g14c2 g15c2 g16c2 g17c2 g18c2 r0c2 r1c2 r2c2 r9c2 x1 (g16c2 + 1) _ _ ls (lv_sub hl [0, 1] rfl) hP hD hS hX
  unfold sM_one at hX
  unfold bM_one_0 at hX
  refine lv_aload_n hx hb dXM_one_0 rfl (lv_at hl 0 rfl) ?_
  refine va_get (D := D) (ci := 1) (v := .int g4) (C := RXM) (T := TXM) (N := 19) hx hb hts hinU hown hK hP 0 rfl rfl 4 (by decide) (htM _ wM_9) (fun _ h9 => h9) rfl dXM_one_1 ?_
  refine lv_istore_n (lv' := [(1, .int g4), (0, .ref h0)]) hx hb dXM_one_4 rfl hl (by decide) rfl (fun ls hl => ?_)
  refine lv_aload_n hx hb dXM_one_5 rfl (lv_at hl 1 rfl) ?_
  refine lv_dup hx hb dXM_one_6 rfl ?_
  refine va_get (D := D) (ci := 1) (v := .int g8) (C := RXM) (T := TXM) (N := 19) hx hb hts hinU hown hK hP 0 rfl rfl 8 (by decide) (htM _ wM_13) (fun _ h9 => h9) rfl dXM_one_7 ?_
  refine lv_iconst (v := 1) hx hb dXM_one_10 (by decide +kernel) ?_
  refine lv_iadd hx hb dXM_one_11 ?_
  refine va_put (D := D) (ci := 1) (v := .int (g8 + 1)) (ty := .int) (C := RXM) (T := TXM) (N := 19) hx hb hts hinU tyXM tyXM_ok nmXM hown hK hP hD hS 0 rfl rfl 8 (by decide) (htM _ wM_13) (fun _ h9 => h9) rfl (by decide +kernel) rfl rfl (Nat.le_of_ble_eq_true rfl) dXM_one_12 (fun H locs hP hD hS => ?_)
  have hP : va_P D vwC2 (wdM cI h0 a0 a1 a2 a9 g3 g4 g5 g6 g7 (g8 + 1) g10 g11 g12 g13 g14 g15 g16 g17 g18 r0 r1 r2 r9) H := hP
  have hD : va_D A (wdM cI h0 a0 a1 a2 a9 g3 g4 g5 g6 g7 (g8 + 1) g10 g11 g12 g13 g14 g15 g16 g17 g18 r0 r1 r2 r9) := hD
  refine lv_aload_n hx hb dXM_one_15 rfl (lv_at hl 1 rfl) ?_
  refine bw_Vv (wr := []) (As := []) (rest := []) ⟨hx, hb, hml, hown, hts⟩ (ctM_condition l D cI h0 a0 a1 a2 a9 _ g3 g4 g5 g6 g7 (g8 + 1) g10 g11 g12 g13 g14 g15 g16 g17 g18 r0 r1 r2 r9) (cwV 0 hts gXM_one_XM_condition rfl rfl rfl (by decide +kernel) ⟨Nat.le_of_ble_eq_true rfl, Nat.le_of_ble_eq_true rfl⟩) hK hP hD hS hA (fun _ _ _ _ h => h) (fun _ _ _ => trivial) 0 rfl rfl rfl hl.1 rfl (Nat.le_of_ble_eq_true rfl) dXM_one_16 ⟨Nat.le_of_ble_eq_true rfl, Nat.le_of_ble_eq_true rfl⟩ (fun u H locs hu hP hD hS => ?_)
  obtain ⟨g3c3, g4c3, g5c3, g6c3, g7c3, g8c3, g10c3, g11c3, g12c3, g13c3, g14c3, g15c3, g16c3, g17c3, g18c3, r0c3, r1c3, r2c3, r9c3⟩ := u
  have hu3 := hu
  rw [← hu] at hX
  have hP : va_P D vwC2 (wdM cI h0 a0 a1 a2 a9 g3c3 g4c3 g5c3 g6c3 g7c3 g8c3 g10c3 g11c3 g12c3 g13c3 g14c3 g15c3 g16c3 g17c3 g18c3 r0c3 r1c3 r2c3 r9c3) H := hP
  have hD : va_D A (wdM cI h0 a0 a1 a2 a9 g3c3 g4c3 g5c3 g6c3 g7c3 g8c3 g10c3 g11c3 g12c3 g13c3 g14c3 g15c3 g16c3 g17c3 g18c3 r0c3 r1c3 r2c3 r9c3) := hD
  have hX : bM_one_19 g3c3 g4c3 g5c3 g6c3 g7c3 g8c3 g10c3 g11c3 g12c3 g13c3 g14c3 g15c3 g16c3 g17c3 g18c3 r0c3 r1c3 r2c3 r9c3 g4 = X := hX
  unfold bM_one_19 at hX
  refine lv_aload_n hx hb dXM_one_19 rfl (lv_at hl 1 rfl) ?_
  refine lv_aload_n hx hb dXM_one_20 rfl (lv_at hl 1 rfl) ?_
  refine bw_Vi (wr := []) (As := []) (rest := [.ref h0]) ⟨hx, hb, hml, hown, hts⟩ (ctM_conditionsNow l D cI h0 a0 a1 a2 a9 _ g3c3 g4c3 g5c3 g6c3 g7c3 g8c3 g10c3 g11c3 g12c3 g13c3 g14c3 g15c3 g16c3 g17c3 g18c3 r0c3 r1c3 r2c3 r9c3) (cwV 0 hts gXM_one_XM_conditionsNow rfl rfl rfl (by decide +kernel) ⟨Nat.le_of_ble_eq_true rfl, Nat.le_of_ble_eq_true rfl⟩) hK hP hD hS hA (fun _ _ _ _ h => h) (fun _ _ _ => trivial) 0 rfl rfl rfl hl.1 rfl (Nat.le_of_ble_eq_true rfl) dXM_one_21 ⟨Nat.le_of_ble_eq_true rfl, Nat.le_of_ble_eq_true rfl⟩ (fun q4 u H locs hu hP hD hS => ?_)
  obtain ⟨hr1, rfl⟩ := hu
  subst hr1
  have hP : va_P D vwC2 (wdM cI h0 a0 a1 a2 a9 g3c3 g4c3 g5c3 g6c3 g7c3 g8c3 g10c3 g11c3 g12c3 g13c3 g14c3 g15c3 g16c3 g17c3 g18c3 r0c3 r1c3 r2c3 r9c3) H := hP
  have hD : va_D A (wdM cI h0 a0 a1 a2 a9 g3c3 g4c3 g5c3 g6c3 g7c3 g8c3 g10c3 g11c3 g12c3 g13c3 g14c3 g15c3 g16c3 g17c3 g18c3 r0c3 r1c3 r2c3 r9c3) := hD
  refine va_put (D := D) (ci := 1) (v := .int (sM_conditionsNow g3c3 g4c3 g5c3 g6c3 g7c3 g8c3 g10c3 g11c3 g12c3 g13c3 g14c3 g15c3 g16c3 g17c3 g18c3 r0c3 r1c3 r2c3 r9c3)) (ty := .int) (C := RXM) (T := TXM) (N := 19) hx hb hts hinU tyXM tyXM_ok nmXM hown hK hP hD hS 0 rfl rfl 5 (by decide) (htM _ wM_10) (fun _ h9 => h9) rfl (by decide +kernel) rfl rfl (Nat.le_of_ble_eq_true rfl) dXM_one_24 (fun H locs hP hD hS => ?_)
  have hP : va_P D vwC2 (wdM cI h0 a0 a1 a2 a9 g3c3 g4c3 (sM_conditionsNow g3c3 g4c3 g5c3 g6c3 g7c3 g8c3 g10c3 g11c3 g12c3 g13c3 g14c3 g15c3 g16c3 g17c3 g18c3 r0c3 r1c3 r2c3 r9c3) g6c3 g7c3 g8c3 g10c3 g11c3 g12c3 g13c3 g14c3 g15c3 g16c3 g17c3 g18c3 r0c3 r1c3 r2c3 r9c3) H := hP
  have hD : va_D A (wdM cI h0 a0 a1 a2 a9 g3c3 g4c3 (sM_conditionsNow g3c3 g4c3 g5c3 g6c3 g7c3 g8c3 g10c3 g11c3 g12c3 g13c3 g14c3 g15c3 g16c3 g17c3 g18c3 r0c3 r1c3 r2c3 r9c3) g6c3 g7c3 g8c3 g10c3 g11c3 g12c3 g13c3 g14c3 g15c3 g16c3 g17c3 g18c3 r0c3 r1c3 r2c3 r9c3) := hD
  refine lv_aload_n hx hb dXM_one_27 rfl (lv_at hl 1 rfl) ?_
  refine lv_aload_n hx hb dXM_one_28 rfl (lv_at hl 1 rfl) ?_
  refine va_get (D := D) (ci := 1) (v := .int g4c3) (C := RXM) (T := TXM) (N := 19) hx hb hts hinU hown hK hP 0 rfl rfl 4 (by decide) (htM _ wM_9) (fun _ h9 => h9) rfl dXM_one_29 ?_
  refine lv_aload_n hx hb dXM_one_32 rfl (lv_at hl 1 rfl) ?_
  refine va_get (D := D) (ci := 1) (v := .int (sM_conditionsNow g3c3 g4c3 g5c3 g6c3 g7c3 g8c3 g10c3 g11c3 g12c3 g13c3 g14c3 g15c3 g16c3 g17c3 g18c3 r0c3 r1c3 r2c3 r9c3)) (C := RXM) (T := TXM) (N := 19) hx hb hts hinU hown hK hP 0 rfl rfl 5 (by decide) (htM _ wM_10) (fun _ h9 => h9) rfl dXM_one_33 ?_
  refine lv_ior hx hb dXM_one_36 ?_
  refine va_put (D := D) (ci := 1) (v := .int (g4c3 ||| (sM_conditionsNow g3c3 g4c3 g5c3 g6c3 g7c3 g8c3 g10c3 g11c3 g12c3 g13c3 g14c3 g15c3 g16c3 g17c3 g18c3 r0c3 r1c3 r2c3 r9c3))) (ty := .int) (C := RXM) (T := TXM) (N := 19) hx hb hts hinU tyXM tyXM_ok nmXM hown hK hP hD hS 0 rfl rfl 4 (by decide) (htM _ wM_9) (fun _ h9 => h9) rfl (by decide +kernel) rfl rfl (Nat.le_of_ble_eq_true rfl) dXM_one_37 (fun H locs hP hD hS => ?_)
  have hP : va_P D vwC2 (wdM cI h0 a0 a1 a2 a9 g3c3 (g4c3 ||| (sM_conditionsNow g3c3 g4c3 g5c3 g6c3 g7c3 g8c3 g10c3 g11c3 g12c3 g13c3 g14c3 g15c3 g16c3 g17c3 g18c3 r0c3 r1c3 r2c3 r9c3)) (sM_conditionsNow g3c3 g4c3 g5c3 g6c3 g7c3 g8c3 g10c3 g11c3 g12c3 g13c3 g14c3 g15c3 g16c3 g17c3 g18c3 r0c3 r1c3 r2c3 r9c3) g6c3 g7c3 g8c3 g10c3 g11c3 g12c3 g13c3 g14c3 g15c3 g16c3 g17c3 g18c3 r0c3 r1c3 r2c3 r9c3) H := hP
  have hD : va_D A (wdM cI h0 a0 a1 a2 a9 g3c3 (g4c3 ||| (sM_conditionsNow g3c3 g4c3 g5c3 g6c3 g7c3 g8c3 g10c3 g11c3 g12c3 g13c3 g14c3 g15c3 g16c3 g17c3 g18c3 r0c3 r1c3 r2c3 r9c3)) (sM_conditionsNow g3c3 g4c3 g5c3 g6c3 g7c3 g8c3 g10c3 g11c3 g12c3 g13c3 g14c3 g15c3 g16c3 g17c3 g18c3 r0c3 r1c3 r2c3 r9c3) g6c3 g7c3 g8c3 g10c3 g11c3 g12c3 g13c3 g14c3 g15c3 g16c3 g17c3 g18c3 r0c3 r1c3 r2c3 r9c3) := hD
  refine lv_aload_n hx hb dXM_one_40 rfl (lv_at hl 1 rfl) ?_
  refine bw_Vi (wr := []) (As := []) (rest := []) ⟨hx, hb, hml, hown, hts⟩ (ctM_commands l D cI h0 a0 a1 a2 a9 _ g3c3 (g4c3 ||| (sM_conditionsNow g3c3 g4c3 g5c3 g6c3 g7c3 g8c3 g10c3 g11c3 g12c3 g13c3 g14c3 g15c3 g16c3 g17c3 g18c3 r0c3 r1c3 r2c3 r9c3)) (sM_conditionsNow g3c3 g4c3 g5c3 g6c3 g7c3 g8c3 g10c3 g11c3 g12c3 g13c3 g14c3 g15c3 g16c3 g17c3 g18c3 r0c3 r1c3 r2c3 r9c3) g6c3 g7c3 g8c3 g10c3 g11c3 g12c3 g13c3 g14c3 g15c3 g16c3 g17c3 g18c3 r0c3 r1c3 r2c3 r9c3  (hV_cond hV hu3)) (cwV 0 hts gXM_one_XM_commands rfl rfl rfl (by decide +kernel) ⟨Nat.le_of_ble_eq_true rfl, Nat.le_of_ble_eq_true rfl⟩) hK hP hD hS hA (fun _ _ _ _ h => h) (fun _ _ _ => trivial) 0 rfl rfl rfl hl.1 rfl (Nat.le_of_ble_eq_true rfl) dXM_one_41 ⟨Nat.le_of_ble_eq_true rfl, Nat.le_of_ble_eq_true rfl⟩ (fun q5 u H locs hu hP hD hS => ?_)
  obtain ⟨g3c5, g4c5, g5c5, g6c5, g7c5, g8c5, g10c5, g11c5, g12c5, g13c5, g14c5, g15c5, g16c5, g17c5, g18c5, r0c5, r1c5, r2c5, r9c5⟩ := u
  have hu5 := hu
  rw [← hu] at hX
  have hP : va_P D vwC2 (wdM cI h0 a0 a1 a2 a9 g3c5 g4c5 g5c5 g6c5 g7c5 g8c5 g10c5 g11c5 g12c5 g13c5 g14c5 g15c5 g16c5 g17c5 g18c5 r0c5 r1c5 r2c5 r9c5) H := hP
  have hD : va_D A (wdM cI h0 a0 a1 a2 a9 g3c5 g4c5 g5c5 g6c5 g7c5 g8c5 g10c5 g11c5 g12c5 g13c5 g14c5 g15c5 g16c5 g17c5 g18c5 r0c5 r1c5 r2c5 r9c5) := hD
  have hX : bM_one_44 g3c5 g4c5 g5c5 g6c5 g7c5 g8c5 g10c5 g11c5 g12c5 g13c5 g14c5 g15c5 g16c5 g17c5 g18c5 r0c5 r1c5 r2c5 r9c5 g4 q5 = X := hX
  unfold bM_one_44 at hX
  refine lv_istore_n (lv' := [(2, .int q5), (1, .int g4), (0, .ref h0)]) hx hb dXM_one_44 rfl hl (by decide) rfl (fun ls hl => ?_)
  refine lv_aload_n hx hb dXM_one_45 rfl (lv_at hl 2 rfl) ?_
  refine lv_aload_n hx hb dXM_one_46 rfl (lv_at hl 2 rfl) ?_
  refine lv_aload_n hx hb dXM_one_47 rfl (lv_at hl 2 rfl) ?_
  refine va_get (D := D) (ci := 1) (v := .int g7c5) (C := RXM) (T := TXM) (N := 19) hx hb hts hinU hown hK hP 0 rfl rfl 7 (by decide) (htM _ wM_12) (fun _ h9 => h9) rfl dXM_one_48 ?_
  refine lv_if_ge (tgt := 58) hx hb dXM_one_51 (by decide) (fun hc51 => ?_) (fun hc51 => ?_)
  · rw [if_pos hc51] at hX
    unfold bM_one_58 at hX
    refine lv_aload_n hx hb dXM_one_58 rfl (lv_at hl 2 rfl) ?_
    refine va_get (D := D) (ci := 1) (v := .int g7c5) (C := RXM) (T := TXM) (N := 19) hx hb hts hinU hown hK hP 0 rfl rfl 7 (by decide) (htM _ wM_12) (fun _ h9 => h9) rfl dXM_one_59 ?_
    exact J62 g3c5 g4c5 g5c5 g6c5 g7c5 g8c5 g10c5 g11c5 g12c5 g13c5 g14c5 g15c5 g16c5 g17c5 g18c5 r0c5 r1c5 r2c5 r9c5 g4 g7c5 _ _ ls (lv_sub hl [2, 1] rfl) hP hD hS hX
  · rw [if_neg hc51] at hX
    unfold bM_one_54 at hX
    refine lv_iload_n hx hb dXM_one_54 rfl (lv_at hl 0 rfl) ?_
    refine lv_goto (tgt := 62) hx hb dXM_one_55 (by decide) ?_
    exact J62 g3c5 g4c5 g5c5 g6c5 g7c5 g8c5 g10c5 g11c5 g12c5 g13c5 g14c5 g15c5 g16c5 g17c5 g18c5 r0c5 r1c5 r2c5 r9c5 g4 q5 _ _ ls (lv_sub hl [2, 1] rfl) hP hD hS hX
abbrev rmM_tick : Room := { frames := 3, cells := 0, slots := 0, locals := 69 }
set_option maxHeartbeats 4000000 in
set_option maxRecDepth 100000 in
theorem ctM_tick (l : Launch) (D : va_G) (cI : ClassId) (h0 a0 a1 a2 a9 sz : Nat) (g3 g4 g5 g6 g7 g8 g10 g11 g12 g13 g14 g15 g16 g17 g18 : Int32) (r0 r1 r2 r9 : Nat → Int32) (k1 : Int32) (hV : hVof r0) : Met l yXM_tick wsXM_tick rmM_tick (va_Pc [.ref h0, .int k1] (bw_pr D vwC2 [(cI, .int)] (wdM cI h0 a0 a1 a2 a9 g3 g4 g5 g6 g7 g8 g10 g11 g12 g13 g14 g15 g16 g17 g18 r0 r1 r2 r9) sz (fun _ => True))) (va_Qi (fun r u => (r, u) = sM_tick g3 g4 g5 g6 g7 g8 g10 g11 g12 g13 g14 g15 g16 g17 g18 r0 r1 r2 r9 k1) (bw_at D vwC2 [(cI, .int)] (wfM cI h0 a0 a1 a2 a9) (va_A (wdM cI h0 a0 a1 a2 a9 g3 g4 g5 g6 g7 g8 g10 g11 g12 g13 g14 g15 g16 g17 g18 r0 r1 r2 r9) sz)) (va_A (wdM cI h0 a0 a1 a2 a9 g3 g4 g5 g6 g7 g8 g10 g11 g12 g13 g14 g15 g16 g17 g18 r0 r1 r2 r9) sz)) 0 0 (va_A (wdM cI h0 a0 a1 a2 a9 g3 g4 g5 g6 g7 g8 g10 g11 g12 g13 g14 g15 g16 g17 g18 r0 r1 r2 r9) sz) := by
  refine Met.ofW (cc := cXM_tick) (maxL := 4) (ret := (some .int)) (by decide) rfl ?_
  intro p e s m args below meth c s₁ B hml hv
  obtain ⟨rfl, hsz, hP, hK, hD0, hT⟩ := hv
  have hx := B.exec
  have hb := B.bytes
  have hr := B.returns
  have hts := atoms_spec (ws := wsXM_tick) B.pre
  have hown : s.vm.findClass RXM = some m.cls := findClass_of_methodNamed B.named
  have hlocks := B.notSynchronized
  subst hsz
  have hD := hD0.self (sz := s.heap.size)
  generalize hAe : va_A (wdM cI h0 a0 a1 a2 a9 g3 g4 g5 g6 g7 g8 g10 g11 g12 g13 g14 g15 g16 g17 g18 r0 r1 r2 r9) s.heap.size = A at hD hT ⊢
  have hA : ∀ q : Nat, s.heap.size ≤ q → A q := fun q h => by rw [← hAe]; exact Or.inr h
  have hS : va_S A s.heap s.heap [] := va_S.rf
  have hl := lv_entry ([.ref h0, .int k1]) (n := 4) (Nat.le_of_ble_eq_true rfl)
  rw [lg_entry_eq]
  generalize (lg_sl ([.ref h0, .int k1]) ++ List.replicate (4 - (lg_sl ([.ref h0, .int k1])).length) Slot.unset).toArray = ls at hl ⊢
  have hl : lv_has ls 4 [(0, .ref h0), (1, .int k1)] := hl
  generalize hX : sM_tick g3 g4 g5 g6 g7 g8 g10 g11 g12 g13 g14 g15 g16 g17 g18 r0 r1 r2 r9 k1 = X
  refine bw_Q (fun Q hQ => ?_)
  have hinU : ∀ w ∈ wsXM0, w ∈ wsXM_tick := fun w h => List.mem_cons_of_mem _ (List.mem_append_right _ h)
  have htM := fun w h => hts w (List.mem_cons_of_mem _ (List.mem_append_left _ h))
  have J46 : ∀ (g3 g4 g5 g6 g7 g8 g10 g11 g12 g13 g14 g15 g16 g17 g18 : Int32) (r0 r1 r2 r9 : Nat → Int32) (x2 : Int32) (H : Heap) (locs : List Loc) (ls : Array Slot), lv_has ls 4 [(0, .ref h0), (2, .int x2)] → va_P D vwC2 (wdM cI h0 a0 a1 a2 a9 g3 g4 g5 g6 g7 g8 g10 g11 g12 g13 g14 g15 g16 g17 g18 r0 r1 r2 r9) H → va_D A (wdM cI h0 a0 a1 a2 a9 g3 g4 g5 g6 g7 g8 g10 g11 g12 g13 g14 g15 g16 g17 g18 r0 r1 r2 r9) → va_S A s.heap H locs → bM_tick_46 g3 g4 g5 g6 g7 g8 g10 g11 g12 g13 g14 g15 g16 g17 g18 r0 r1 r2 r9 x2 = X → W p l e (headSpec wsXM_tick rmM_tick).room s m ([.ref h0, .int k1] : List Value).toArray below meth c H locs 0 0 Q (F0 m 46 ls []) := by
    intro g3 g4 g5 g6 g7 g8 g10 g11 g12 g13 g14 g15 g16 g17 g18 r0 r1 r2 r9 x2 H locs ls hl hP hD hS hX
    unfold bM_tick_46 at hX
    refine lv_iload_n hx hb dXM_tick_46 rfl (lv_at hl 1 rfl) ?_
    subst hQ
    exact W.iret (v := x2) hx hb hr (fun t ht hW => ⟨⟨x2, (g3, g4, g5, g6, g7, g8, g10, g11, g12, g13, g14, g15, g16, g17, g18, r0, r1, r2, r9), rfl, hX, by rw [ht]; exact hP, va_K.moved hW.alike hK, hD⟩, hS.F ht⟩) hS.2.2 dXM_tick_47
  have JH18 : ∀ (f k : Nat), k < f → k ≤ 600 → ∀ (g3 g4 g5 g6 g7 g8 g10 g11 g12 g13 g14 g15 g16 g17 g18 : Int32) (r0 r1 r2 r9 : Nat → Int32) (x1 : Int32) (x2 : Int32) (x3 : Int32), ((∃ N : Nat, N ≤ 600 ∧ k ≤ N ∧ x1 = nI N ∧ x2 = nI (N - k)) ∧ hVof r0) → ∀ (H : Heap) (locs : List Loc) (ls : Array Slot), lv_has ls 4 [(0, .ref h0), (1, .int x1), (2, .int x2), (3, .int x3)] → va_P D vwC2 (wdM cI h0 a0 a1 a2 a9 g3 g4 g5 g6 g7 g8 g10 g11 g12 g13 g14 g15 g16 g17 g18 r0 r1 r2 r9) H → va_D A (wdM cI h0 a0 a1 a2 a9 g3 g4 g5 g6 g7 g8 g10 g11 g12 g13 g14 g15 g16 g17 g18 r0 r1 r2 r9) → va_S A s.heap H locs → bM_tick_18 f g3 g4 g5 g6 g7 g8 g10 g11 g12 g13 g14 g15 g16 g17 g18 r0 r1 r2 r9 x1 x2 x3 = X → W p l e (headSpec wsXM_tick rmM_tick).room s m ([.ref h0, .int k1] : List Value).toArray below meth c H locs 0 0 Q (F0 m 18 ls []) := by
    intro f
    induction f with
    | zero => intro k hkf; omega
    | succ f ih =>
      intro k hkf hkN g3 g4 g5 g6 g7 g8 g10 g11 g12 g13 g14 g15 g16 g17 g18 r0 r1 r2 r9 x1 x2 x3 hi H locs ls hl hP hD hS hX
      rw [bM_tick_18_s] at hX
      refine lv_iload_n hx hb dXM_tick_18 rfl (lv_at hl 2 rfl) ?_
      refine lv_iload_n hx hb dXM_tick_19 rfl (lv_at hl 1 rfl) ?_
      refine lv_icmp_ge (tgt := 46) hx hb dXM_tick_20 (by decide) (fun hc20 => ?_) (fun hc20 => ?_)
      · rw [if_pos hc20] at hX
        exact J46 g3 g4 g5 g6 g7 g8 g10 g11 g12 g13 g14 g15 g16 g17 g18 r0 r1 r2 r9 x2 _ _ ls (lv_sub hl [0, 2] rfl) hP hD hS hX
      · rw [if_neg hc20] at hX
        obtain ⟨⟨N, hN2, hkN1, hN1, hx2⟩, hV0⟩ := hi
        have hk0 : k ≠ 0 := fun h => hc20 (by rw [hN1, hx2, h]; exact nI_le (by omega) (by omega))
        obtain ⟨k, rfl⟩ : ∃ k', k = k' + 1 := ⟨k - 1, by omega⟩
        unfold bM_tick_23 at hX
        refine lv_iload_n hx hb dXM_tick_23 rfl (lv_at hl 3 rfl) ?_
        refine lv_if_eq (tgt := 46) hx hb dXM_tick_24 (by decide) (fun hc24 => ?_) (fun hc24 => ?_)
        · rw [if_pos hc24] at hX
          exact J46 g3 g4 g5 g6 g7 g8 g10 g11 g12 g13 g14 g15 g16 g17 g18 r0 r1 r2 r9 x2 _ _ ls (lv_sub hl [0, 2] rfl) hP hD hS hX
        · rw [if_neg hc24] at hX
          unfold bM_tick_27 at hX
          refine lv_aload_n hx hb dXM_tick_27 rfl (lv_at hl 0 rfl) ?_
          refine bw_Vi (wr := []) (As := []) (rest := []) ⟨hx, hb, hml, hown, hts⟩ (ctM_one l D cI h0 a0 a1 a2 a9 _ g3 g4 g5 g6 g7 g8 g10 g11 g12 g13 g14 g15 g16 g17 g18 r0 r1 r2 r9  hV0) (cwV 0 hts gXM_tick_XM_one rfl rfl rfl (by decide +kernel) ⟨Nat.le_of_ble_eq_true rfl, Nat.le_of_ble_eq_true rfl⟩) hK hP hD hS hA (fun _ _ _ _ h => h) (fun _ _ _ => trivial) 0 rfl rfl rfl hl.1 rfl (Nat.le_of_ble_eq_true rfl) dXM_tick_28 ⟨Nat.le_of_ble_eq_true rfl, Nat.le_of_ble_eq_true rfl⟩ (fun q1 u H locs hu hP hD hS => ?_)
          obtain ⟨g3c1, g4c1, g5c1, g6c1, g7c1, g8c1, g10c1, g11c1, g12c1, g13c1, g14c1, g15c1, g16c1, g17c1, g18c1, r0c1, r1c1, r2c1, r9c1⟩ := u
          have hu1 := hu
          rw [← hu] at hX
          have hP : va_P D vwC2 (wdM cI h0 a0 a1 a2 a9 g3c1 g4c1 g5c1 g6c1 g7c1 g8c1 g10c1 g11c1 g12c1 g13c1 g14c1 g15c1 g16c1 g17c1 g18c1 r0c1 r1c1 r2c1 r9c1) H := hP
          have hD : va_D A (wdM cI h0 a0 a1 a2 a9 g3c1 g4c1 g5c1 g6c1 g7c1 g8c1 g10c1 g11c1 g12c1 g13c1 g14c1 g15c1 g16c1 g17c1 g18c1 r0c1 r1c1 r2c1 r9c1) := hD
          have hX : bM_tick_31 (bM_tick_18 f) g3c1 g4c1 g5c1 g6c1 g7c1 g8c1 g10c1 g11c1 g12c1 g13c1 g14c1 g15c1 g16c1 g17c1 g18c1 r0c1 r1c1 r2c1 r9c1 x1 x2 q1 = X := hX
          unfold bM_tick_31 at hX
          refine lv_if_ne (tgt := 38) hx hb dXM_tick_31 (by decide) (fun hc31 => ?_) (fun hc31 => ?_)
          · rw [if_neg hc31] at hX
            unfold bM_tick_38 at hX
            refine lv_iconst (v := 0) hx hb dXM_tick_38 (by decide +kernel) ?_
            unfold bM_tick_39 at hX
            refine lv_istore_n (lv' := [(3, .int 0), (0, .ref h0), (1, .int x1), (2, .int x2)]) hx hb dXM_tick_39 rfl hl (by decide) rfl (fun ls hl => ?_)
            refine lv_iinc (k := 3) (v := x2 + 1) (lv' := [(2, .int (x2 + 1)), (3, .int 0), (0, .ref h0), (1, .int x1)]) hx hb dXM_tick_40 hl rfl (bw_inc1 _) (by decide) rfl (fun ls hl => ?_)
            refine lv_goto (tgt := 18) hx hb dXM_tick_43 (by decide) ?_
            exact ih k (by omega) (by omega) g3c1 g4c1 g5c1 g6c1 g7c1 g8c1 g10c1 g11c1 g12c1 g13c1 g14c1 g15c1 g16c1 g17c1 g18c1 r0c1 r1c1 r2c1 r9c1 x1 (x2 + 1) 0 (⟨⟨N, hN2, by omega, hN1, bw_nx hx2 (by omega)⟩, hV_one hV0 hu1⟩) _ _ ls (lv_sub hl [2, 3, 0, 1] rfl) hP hD hS hX
          · rw [if_pos hc31] at hX
            unfold bM_tick_34 at hX
            refine lv_iconst (v := 1) hx hb dXM_tick_34 (by decide +kernel) ?_
            refine lv_goto (tgt := 39) hx hb dXM_tick_35 (by decide) ?_
            unfold bM_tick_39 at hX
            refine lv_istore_n (lv' := [(3, .int 1), (0, .ref h0), (1, .int x1), (2, .int x2)]) hx hb dXM_tick_39 rfl hl (by decide) rfl (fun ls hl => ?_)
            refine lv_iinc (k := 3) (v := x2 + 1) (lv' := [(2, .int (x2 + 1)), (3, .int 1), (0, .ref h0), (1, .int x1)]) hx hb dXM_tick_40 hl rfl (bw_inc1 _) (by decide) rfl (fun ls hl => ?_)
            refine lv_goto (tgt := 18) hx hb dXM_tick_43 (by decide) ?_
            exact ih k (by omega) (by omega) g3c1 g4c1 g5c1 g6c1 g7c1 g8c1 g10c1 g11c1 g12c1 g13c1 g14c1 g15c1 g16c1 g17c1 g18c1 r0c1 r1c1 r2c1 r9c1 x1 (x2 + 1) 1 (⟨⟨N, hN2, by omega, hN1, bw_nx hx2 (by omega)⟩, hV_one hV0 hu1⟩) _ _ ls (lv_sub hl [2, 3, 0, 1] rfl) hP hD hS hX
  have J12 : ∀ (g3 g4 g5 g6 g7 g8 g10 g11 g12 g13 g14 g15 g16 g17 g18 : Int32) (r0 r1 r2 r9 : Nat → Int32) (H : Heap) (locs : List Loc) (ls : Array Slot), lv_has ls 4 [(0, .ref h0)] → va_P D vwC2 (wdM cI h0 a0 a1 a2 a9 g3 g4 g5 g6 g7 g8 g10 g11 g12 g13 g14 g15 g16 g17 g18 r0 r1 r2 r9) H → va_D A (wdM cI h0 a0 a1 a2 a9 g3 g4 g5 g6 g7 g8 g10 g11 g12 g13 g14 g15 g16 g17 g18 r0 r1 r2 r9) → va_S A s.heap H locs → bM_tick_12 g3 g4 g5 g6 g7 g8 g10 g11 g12 g13 g14 g15 g16 g17 g18 r0 r1 r2 r9 = X → W p l e (headSpec wsXM_tick rmM_tick).room s m ([.ref h0, .int k1] : List Value).toArray below meth c H locs 0 0 Q (F0 m 12 ls []) := by
    intro g3 g4 g5 g6 g7 g8 g10 g11 g12 g13 g14 g15 g16 g17 g18 r0 r1 r2 r9 H locs ls hl hP hD hS hX
    unfold bM_tick_12 at hX
    refine lv_iconst (v := (-1)) hx hb dXM_tick_12 (by decide +kernel) ?_
    subst hQ
    exact W.iret (v := (-1)) hx hb hr (fun t ht hW => ⟨⟨(-1), (g3, g4, g5, g6, g7, g8, g10, g11, g12, g13, g14, g15, g16, g17, g18, r0, r1, r2, r9), rfl, hX, by rw [ht]; exact hP, va_K.moved hW.alike hK, hD⟩, hS.F ht⟩) hS.2.2 dXM_tick_13
  unfold sM_tick at hX
  unfold bM_tick_0 at hX
  refine lv_iload_n hx hb dXM_tick_0 rfl (lv_at hl 1 rfl) ?_
  refine lv_iconst (v := 1) hx hb dXM_tick_1 (by decide +kernel) ?_
  refine lv_icmp_lt (tgt := 12) hx hb dXM_tick_2 (by decide) (fun hc2 => ?_) (fun hc2 => ?_)
  · rw [if_pos hc2] at hX
    exact J12 g3 g4 g5 g6 g7 g8 g10 g11 g12 g13 g14 g15 g16 g17 g18 r0 r1 r2 r9 _ _ ls (lv_sub hl [0] rfl) hP hD hS hX
  · rw [if_neg hc2] at hX
    unfold bM_tick_5 at hX
    refine lv_iload_n hx hb dXM_tick_5 rfl (lv_at hl 1 rfl) ?_
    refine lv_sipush (v := 600) hx hb dXM_tick_6 (by decide +kernel) ?_
    refine lv_icmp_le (tgt := 14) hx hb dXM_tick_9 (by decide) (fun hc9 => ?_) (fun hc9 => ?_)
    · rw [if_pos hc9] at hX
      obtain ⟨N, hN2, hN1⟩ := tickN2 hc2 hc9
      unfold bM_tick_14 at hX
      refine lv_iconst (v := 0) hx hb dXM_tick_14 (by decide +kernel) ?_
      refine lv_istore_n (lv' := [(2, .int 0), (0, .ref h0), (1, .int k1)]) hx hb dXM_tick_15 rfl hl (by decide) rfl (fun ls hl => ?_)
      refine lv_iconst (v := 1) hx hb dXM_tick_16 (by decide +kernel) ?_
      refine lv_istore_n (lv' := [(3, .int 1), (2, .int 0), (0, .ref h0), (1, .int k1)]) hx hb dXM_tick_17 rfl hl (by decide) rfl (fun ls hl => ?_)
      exact JH18 601 N (by omega) (by omega) g3 g4 g5 g6 g7 g8 g10 g11 g12 g13 g14 g15 g16 g17 g18 r0 r1 r2 r9 k1 0 1 (⟨⟨N, hN2, Nat.le_refl _, hN1, by rw [Nat.sub_self]; decide +kernel⟩, hV⟩) _ _ ls (lv_sub hl [2, 3, 1, 0] rfl) hP hD hS hX
    · rw [if_neg hc9] at hX
      exact J12 g3 g4 g5 g6 g7 g8 g10 g11 g12 g13 g14 g15 g16 g17 g18 r0 r1 r2 r9 _ _ ls (lv_sub hl [0] rfl) hP hD hS hX
