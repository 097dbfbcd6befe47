abbrev rmM_least : Room := { frames := 0, cells := 0, slots := 0, locals := 0 }
set_option maxHeartbeats 4000000 in
set_option maxRecDepth 100000 in
theorem ctM_least (l : Launch) (sz : Nat) (k1 : Int32) : Met l yXM_least wsXM_least rmM_least (va_Pc [.int k1] (fun U => U.heap.size = sz)) (va_Qi (fun r (_ : Unit) => r = sM_least k1) (fun _ _ => True) (va_A [] sz)) 0 0 (va_A [] sz) := by
  refine Met.ofW (cc := cXM_least) (maxL := 1) (ret := (some .int)) (by decide) rfl ?_
  intro p e s m args below meth c s₁ B hml hv
  obtain ⟨rfl, hsz⟩ := hv
  have hx := B.exec
  have hb := B.bytes
  have hr := B.returns
  have hts := atoms_spec (ws := wsXM_least) B.pre
  have hown : s.vm.findClass RXM = some m.cls := findClass_of_methodNamed B.named
  have hlocks := B.notSynchronized
  subst hsz
  generalize hAe : va_A [] s.heap.size = A
  have hA : ∀ q : Nat, s.heap.size ≤ q → A q := fun q h => by rw [← hAe]; exact Or.inr h
  have hS : va_S A s.heap s.heap [] := va_S.rf
  have hl := lv_entry ([.int k1]) (n := 1) (Nat.le_of_ble_eq_true rfl)
  rw [lg_entry_eq]
  generalize (lg_sl ([.int k1]) ++ List.replicate (1 - (lg_sl ([.int k1])).length) Slot.unset).toArray = ls at hl ⊢
  have hl : lv_has ls 1 [(0, .int k1)] := hl
  generalize hX : sM_least k1 = X
  refine bw_Q (fun Q hQ => ?_)
  have J10 : ∀  (ls : Array Slot), lv_has ls 1 [] → bM_least_10 = X → W p l e (headSpec wsXM_least rmM_least).room s m ([.int k1] : List Value).toArray below meth c s.heap [] 0 0 Q (F0 m 10 ls []) := by
    intro  ls hl hX
    unfold bM_least_10 at hX
    refine lv_bipush (v := 50) hx hb dXM_least_10 (by decide +kernel) ?_
    refine lv_goto (tgt := 71) hx hb dXM_least_12 (by decide) ?_
    subst hQ
    exact W.iret (v := 50) hx hb hr (fun t ht hW => ⟨⟨50, (), rfl, hX, trivial⟩, hS.F ht⟩) hS.2.2 dXM_least_71
  unfold sM_least at hX
  unfold bM_least_0 at hX
  refine lv_iload_n hx hb dXM_least_0 rfl (lv_at hl 0 rfl) ?_
  refine lv_if_eq (tgt := 10) hx hb dXM_least_1 (by decide) (fun hc1 => ?_) (fun hc1 => ?_)
  · rw [if_pos hc1] at hX
    exact J10  ls (lv_sub hl [] rfl) hX
  · rw [if_neg hc1] at hX
    unfold bM_least_4 at hX
    refine lv_iload_n hx hb dXM_least_4 rfl (lv_at hl 0 rfl) ?_
    refine lv_bipush (v := 9) hx hb dXM_least_5 (by decide +kernel) ?_
    refine lv_icmp_ne (tgt := 15) hx hb dXM_least_7 (by decide) (fun hc7 => ?_) (fun hc7 => ?_)
    · rw [if_neg hc7] at hX
      unfold bM_least_15 at hX
      refine lv_iload_n hx hb dXM_least_15 rfl (lv_at hl 0 rfl) ?_
      refine lv_iconst (v := 3) hx hb dXM_least_16 (by decide +kernel) ?_
      refine lv_icmp_ne (tgt := 24) hx hb dXM_least_17 (by decide) (fun hc17 => ?_) (fun hc17 => ?_)
      · rw [if_neg hc17] at hX
        unfold bM_least_24 at hX
        refine lv_iload_n hx hb dXM_least_24 rfl (lv_at hl 0 rfl) ?_
        refine lv_iconst (v := 4) hx hb dXM_least_25 (by decide +kernel) ?_
        refine lv_icmp_ne (tgt := 35) hx hb dXM_least_26 (by decide) (fun hc26 => ?_) (fun hc26 => ?_)
        · rw [if_neg hc26] at hX
          unfold bM_least_35 at hX
          refine lv_iload_n hx hb dXM_least_35 rfl (lv_at hl 0 rfl) ?_
          refine lv_iconst (v := 5) hx hb dXM_least_36 (by decide +kernel) ?_
          refine lv_icmp_ne (tgt := 46) hx hb dXM_least_37 (by decide) (fun hc37 => ?_) (fun hc37 => ?_)
          · rw [if_neg hc37] at hX
            unfold bM_least_46 at hX
            refine lv_iload_n hx hb dXM_least_46 rfl (lv_at hl 0 rfl) ?_
            refine lv_bipush (v := 6) hx hb dXM_least_47 (by decide +kernel) ?_
            refine lv_icmp_ne (tgt := 58) hx hb dXM_least_49 (by decide) (fun hc49 => ?_) (fun hc49 => ?_)
            · rw [if_neg hc49] at hX
              unfold bM_least_58 at hX
              refine lv_iload_n hx hb dXM_least_58 rfl (lv_at hl 0 rfl) ?_
              refine lv_bipush (v := 7) hx hb dXM_least_59 (by decide +kernel) ?_
              refine lv_icmp_ne (tgt := 70) hx hb dXM_least_61 (by decide) (fun hc61 => ?_) (fun hc61 => ?_)
              · rw [if_neg hc61] at hX
                unfold bM_least_70 at hX
                refine lv_iconst (v := 0) hx hb dXM_least_70 (by decide +kernel) ?_
                subst hQ
                exact W.iret (v := 0) hx hb hr (fun t ht hW => ⟨⟨0, (), rfl, hX, trivial⟩, hS.F ht⟩) hS.2.2 dXM_least_71
              · rw [if_pos hc61] at hX
                unfold bM_least_64 at hX
                refine lv_sipush (v := (-300)) hx hb dXM_least_64 (by decide +kernel) ?_
                refine lv_goto (tgt := 71) hx hb dXM_least_67 (by decide) ?_
                subst hQ
                exact W.iret (v := (-300)) hx hb hr (fun t ht hW => ⟨⟨(-300), (), rfl, hX, trivial⟩, hS.F ht⟩) hS.2.2 dXM_least_71
            · rw [if_pos hc49] at hX
              unfold bM_least_52 at hX
              refine lv_sipush (v := (-400)) hx hb dXM_least_52 (by decide +kernel) ?_
              refine lv_goto (tgt := 71) hx hb dXM_least_55 (by decide) ?_
              subst hQ
              exact W.iret (v := (-400)) hx hb hr (fun t ht hW => ⟨⟨(-400), (), rfl, hX, trivial⟩, hS.F ht⟩) hS.2.2 dXM_least_71
          · rw [if_pos hc37] at hX
            unfold bM_least_40 at hX
            refine lv_sipush (v := 1250) hx hb dXM_least_40 (by decide +kernel) ?_
            refine lv_goto (tgt := 71) hx hb dXM_least_43 (by decide) ?_
            subst hQ
            exact W.iret (v := 1250) hx hb hr (fun t ht hW => ⟨⟨1250, (), rfl, hX, trivial⟩, hS.F ht⟩) hS.2.2 dXM_least_71
        · rw [if_pos hc26] at hX
          unfold bM_least_29 at hX
          refine lv_sipush (v := 340) hx hb dXM_least_29 (by decide +kernel) ?_
          refine lv_goto (tgt := 71) hx hb dXM_least_32 (by decide) ?_
          subst hQ
          exact W.iret (v := 340) hx hb hr (fun t ht hW => ⟨⟨340, (), rfl, hX, trivial⟩, hS.F ht⟩) hS.2.2 dXM_least_71
      · rw [if_pos hc17] at hX
        unfold bM_least_20 at hX
        refine lv_iconst (v := 1) hx hb dXM_least_20 (by decide +kernel) ?_
        refine lv_goto (tgt := 71) hx hb dXM_least_21 (by decide) ?_
        subst hQ
        exact W.iret (v := 1) hx hb hr (fun t ht hW => ⟨⟨1, (), rfl, hX, trivial⟩, hS.F ht⟩) hS.2.2 dXM_least_71
    · rw [if_pos hc7] at hX
      exact J10  ls (lv_sub hl [] rfl) hX
abbrev rmM_most : Room := { frames := 0, cells := 0, slots := 0, locals := 0 }
set_option maxHeartbeats 4000000 in
set_option maxRecDepth 100000 in
theorem ctM_most (l : Launch) (sz : Nat) (k1 : Int32) : Met l yXM_most wsXM_most rmM_most (va_Pc [.int k1] (fun U => U.heap.size = sz)) (va_Qi (fun r (_ : Unit) => r = sM_most k1) (fun _ _ => True) (va_A [] sz)) 0 0 (va_A [] sz) := by
  refine Met.ofW (cc := cXM_most) (maxL := 2) (ret := (some .int)) (by decide) rfl ?_
  intro p e s m args below meth c s₁ B hml hv
  obtain ⟨rfl, hsz⟩ := hv
  have hx := B.exec
  have hb := B.bytes
  have hr := B.returns
  have hts := atoms_spec (ws := wsXM_most) B.pre
  have hown : s.vm.findClass RXM = some m.cls := findClass_of_methodNamed B.named
  have hlocks := B.notSynchronized
  subst hsz
  generalize hAe : va_A [] s.heap.size = A
  have hA : ∀ q : Nat, s.heap.size ≤ q → A q := fun q h => by rw [← hAe]; exact Or.inr h
  have hS : va_S A s.heap s.heap [] := va_S.rf
  have hl := lv_entry ([.int k1]) (n := 2) (Nat.le_of_ble_eq_true rfl)
  rw [lg_entry_eq]
  generalize (lg_sl ([.int k1]) ++ List.replicate (2 - (lg_sl ([.int k1])).length) Slot.unset).toArray = ls at hl ⊢
  have hl : lv_has ls 2 [(0, .int k1)] := hl
  generalize hX : sM_most k1 = X
  refine bw_Q (fun Q hQ => ?_)
  have J51 : ∀ (x0 : Int32) (y0 : Int32) (ls : Array Slot), lv_has ls 2 [(0, .int x0)] → bM_most_51 x0 y0 = X → W p l e (headSpec wsXM_most rmM_most).room s m ([.int k1] : List Value).toArray below meth c s.heap [] 0 0 Q (F0 m 51 ls [.int y0]) := by
    intro x0 y0 ls hl hX
    unfold bM_most_51 at hX
    refine lv_istore_n (lv' := [(1, .int y0), (0, .int x0)]) hx hb dXM_most_51 rfl hl (by decide) rfl (fun ls hl => ?_)
    refine lv_iload_n hx hb dXM_most_52 rfl (lv_at hl 1 rfl) ?_
    refine lv_iconst (v := 5) hx hb dXM_most_53 (by decide +kernel) ?_
    refine lv_icmp_gt (tgt := 61) hx hb dXM_most_54 (by decide) (fun hc54 => ?_) (fun hc54 => ?_)
    · rw [if_pos hc54] at hX
      unfold bM_most_61 at hX
      refine lv_iload_n hx hb dXM_most_61 rfl (lv_at hl 1 rfl) ?_
      refine lv_bipush (v := 6) hx hb dXM_most_62 (by decide +kernel) ?_
      refine lv_icmp_ne (tgt := 71) hx hb dXM_most_64 (by decide) (fun hc64 => ?_) (fun hc64 => ?_)
      · rw [if_neg hc64] at hX
        unfold bM_most_71 at hX
        refine lv_iload_n hx hb dXM_most_71 rfl (lv_at hl 1 rfl) ?_
        refine lv_bipush (v := 9) hx hb dXM_most_72 (by decide +kernel) ?_
        refine lv_icmp_ne (tgt := 83) hx hb dXM_most_74 (by decide) (fun hc74 => ?_) (fun hc74 => ?_)
        · rw [if_neg hc74] at hX
          unfold bM_most_83 at hX
          refine lv_sipush (v := 200) hx hb dXM_most_83 (by decide +kernel) ?_
          subst hQ
          exact W.iret (v := 200) hx hb hr (fun t ht hW => ⟨⟨200, (), rfl, hX, trivial⟩, hS.F ht⟩) hS.2.2 dXM_most_86
        · rw [if_pos hc74] at hX
          unfold bM_most_77 at hX
          refine lv_sipush (v := 500) hx hb dXM_most_77 (by decide +kernel) ?_
          refine lv_goto (tgt := 86) hx hb dXM_most_80 (by decide) ?_
          subst hQ
          exact W.iret (v := 500) hx hb hr (fun t ht hW => ⟨⟨500, (), rfl, hX, trivial⟩, hS.F ht⟩) hS.2.2 dXM_most_86
      · rw [if_pos hc64] at hX
        unfold bM_most_67 at hX
        refine lv_iconst (v := 0) hx hb dXM_most_67 (by decide +kernel) ?_
        refine lv_goto (tgt := 86) hx hb dXM_most_68 (by decide) ?_
        subst hQ
        exact W.iret (v := 0) hx hb hr (fun t ht hW => ⟨⟨0, (), rfl, hX, trivial⟩, hS.F ht⟩) hS.2.2 dXM_most_86
    · rw [if_neg hc54] at hX
      unfold bM_most_57 at hX
      refine lv_iload_n hx hb dXM_most_57 rfl (lv_at hl 0 rfl) ?_
      refine lv_goto (tgt := 86) hx hb dXM_most_58 (by decide) ?_
      subst hQ
      exact W.iret (v := y0) hx hb hr (fun t ht hW => ⟨⟨y0, (), rfl, hX, trivial⟩, hS.F ht⟩) hS.2.2 dXM_most_86
  have J9 : ∀ (x0 : Int32) (ls : Array Slot), lv_has ls 2 [(0, .int x0)] → bM_most_9 x0 = X → W p l e (headSpec wsXM_most rmM_most).room s m ([.int k1] : List Value).toArray below meth c s.heap [] 0 0 Q (F0 m 9 ls []) := by
    intro x0 ls hl hX
    unfold bM_most_9 at hX
    refine lv_sipush (v := 600) hx hb dXM_most_9 (by decide +kernel) ?_
    refine lv_goto (tgt := 51) hx hb dXM_most_12 (by decide) ?_
    exact J51 x0 600 ls (lv_sub hl [0] rfl) hX
  unfold sM_most at hX
  unfold bM_most_0 at hX
  refine lv_iload_n hx hb dXM_most_0 rfl (lv_at hl 0 rfl) ?_
  refine lv_if_eq (tgt := 9) hx hb dXM_most_1 (by decide) (fun hc1 => ?_) (fun hc1 => ?_)
  · rw [if_pos hc1] at hX
    exact J9 k1 ls (lv_sub hl [0] rfl) hX
  · rw [if_neg hc1] at hX
    unfold bM_most_4 at hX
    refine lv_iload_n hx hb dXM_most_4 rfl (lv_at hl 0 rfl) ?_
    refine lv_iconst (v := 3) hx hb dXM_most_5 (by decide +kernel) ?_
    refine lv_icmp_ne (tgt := 15) hx hb dXM_most_6 (by decide) (fun hc6 => ?_) (fun hc6 => ?_)
    · rw [if_neg hc6] at hX
      unfold bM_most_15 at hX
      refine lv_iload_n hx hb dXM_most_15 rfl (lv_at hl 0 rfl) ?_
      refine lv_iconst (v := 1) hx hb dXM_most_16 (by decide +kernel) ?_
      refine lv_icmp_ne (tgt := 26) hx hb dXM_most_17 (by decide) (fun hc17 => ?_) (fun hc17 => ?_)
      · rw [if_neg hc17] at hX
        unfold bM_most_26 at hX
        refine lv_iload_n hx hb dXM_most_26 rfl (lv_at hl 0 rfl) ?_
        refine lv_iconst (v := 2) hx hb dXM_most_27 (by decide +kernel) ?_
        refine lv_icmp_ne (tgt := 37) hx hb dXM_most_28 (by decide) (fun hc28 => ?_) (fun hc28 => ?_)
        · rw [if_neg hc28] at hX
          unfold bM_most_37 at hX
          refine lv_iload_n hx hb dXM_most_37 rfl (lv_at hl 0 rfl) ?_
          refine lv_iconst (v := 4) hx hb dXM_most_38 (by decide +kernel) ?_
          refine lv_icmp_ne (tgt := 48) hx hb dXM_most_39 (by decide) (fun hc39 => ?_) (fun hc39 => ?_)
          · rw [if_neg hc39] at hX
            unfold bM_most_48 at hX
            refine lv_sipush (v := 1600) hx hb dXM_most_48 (by decide +kernel) ?_
            exact J51 k1 1600 ls (lv_sub hl [0] rfl) hX
          · rw [if_pos hc39] at hX
            unfold bM_most_42 at hX
            refine lv_sipush (v := 390) hx hb dXM_most_42 (by decide +kernel) ?_
            refine lv_goto (tgt := 51) hx hb dXM_most_45 (by decide) ?_
            exact J51 k1 390 ls (lv_sub hl [0] rfl) hX
        · rw [if_pos hc28] at hX
          unfold bM_most_31 at hX
          refine lv_sipush (v := 2000) hx hb dXM_most_31 (by decide +kernel) ?_
          refine lv_goto (tgt := 51) hx hb dXM_most_34 (by decide) ?_
          exact J51 k1 2000 ls (lv_sub hl [0] rfl) hX
      · rw [if_pos hc17] at hX
        unfold bM_most_20 at hX
        refine lv_sipush (v := 6000) hx hb dXM_most_20 (by decide +kernel) ?_
        refine lv_goto (tgt := 51) hx hb dXM_most_23 (by decide) ?_
        exact J51 k1 6000 ls (lv_sub hl [0] rfl) hX
    · rw [if_pos hc6] at hX
      exact J9 k1 ls (lv_sub hl [0] rfl) hX
abbrev rmM_consistent : Room := { frames := 0, cells := 0, slots := 0, locals := 0 }
set_option maxHeartbeats 4000000 in
set_option maxRecDepth 100000 in
theorem ctM_consistent (l : Launch) (D : va_G) (cI : ClassId) (h0 a0 a1 a2 a9 sz : Nat) (g3 g4 g5 g6 g7 g8 g10 g11 g12 g13 g14 g15 g16 g17 g18 : Int32) (r0 r1 r2 r9 : Nat → Int32)   : Met l yXM_consistent wsXM_consistent rmM_consistent (va_Pc [.ref h0] (bw_pr D vwC2 [(cI, .int)] (wdM cI h0 a0 a1 a2 a9 g3 g4 g5 g6 g7 g8 g10 g11 g12 g13 g14 g15 g16 g17 g18 r0 r1 r2 r9) sz (fun _ => True))) (va_Qi (fun r u => r = sM_consistent g3 g4 g5 g6 g7 g8 g10 g11 g12 g13 g14 g15 g16 g17 g18 r0 r1 r2 r9 ∧ u = (g3, g4, g5, g6, g7, g8, g10, g11, g12, g13, g14, g15, g16, g17, g18, r0, r1, r2, r9)) (bw_at D vwC2 [(cI, .int)] (wfM cI h0 a0 a1 a2 a9) (va_A (wdM cI h0 a0 a1 a2 a9 g3 g4 g5 g6 g7 g8 g10 g11 g12 g13 g14 g15 g16 g17 g18 r0 r1 r2 r9) sz)) (va_A (wdM cI h0 a0 a1 a2 a9 g3 g4 g5 g6 g7 g8 g10 g11 g12 g13 g14 g15 g16 g17 g18 r0 r1 r2 r9) sz)) 0 0 (va_A (wdM cI h0 a0 a1 a2 a9 g3 g4 g5 g6 g7 g8 g10 g11 g12 g13 g14 g15 g16 g17 g18 r0 r1 r2 r9) sz) := by
  refine Met.ofW (cc := cXM_consistent) (maxL := 1) (ret := (some .boolean)) (by decide) rfl ?_
  intro p e s m args below meth c s₁ B hml hv
  obtain ⟨rfl, hsz, hP, hK, hD0, hT⟩ := hv
  have hx := B.exec
  have hb := B.bytes
  have hr := B.returns
  have hts := atoms_spec (ws := wsXM_consistent) B.pre
  have hown : s.vm.findClass RXM = some m.cls := findClass_of_methodNamed B.named
  have hlocks := B.notSynchronized
  subst hsz
  have hD := hD0.self (sz := s.heap.size)
  generalize hAe : va_A (wdM cI h0 a0 a1 a2 a9 g3 g4 g5 g6 g7 g8 g10 g11 g12 g13 g14 g15 g16 g17 g18 r0 r1 r2 r9) s.heap.size = A at hD hT ⊢
  have hA : ∀ q : Nat, s.heap.size ≤ q → A q := fun q h => by rw [← hAe]; exact Or.inr h
  have hS : va_S A s.heap s.heap [] := va_S.rf
  have hl := lv_entry ([.ref h0]) (n := 1) (Nat.le_of_ble_eq_true rfl)
  rw [lg_entry_eq]
  generalize (lg_sl ([.ref h0]) ++ List.replicate (1 - (lg_sl ([.ref h0])).length) Slot.unset).toArray = ls at hl ⊢
  have hl : lv_has ls 1 [(0, .ref h0)] := hl
  generalize hX : sM_consistent g3 g4 g5 g6 g7 g8 g10 g11 g12 g13 g14 g15 g16 g17 g18 r0 r1 r2 r9 = X
  refine bw_Q (fun Q hQ => ?_)
  have hinU : ∀ w ∈ wsXM0, w ∈ wsXM_consistent := fun w h => List.mem_cons_of_mem _ (List.mem_append_right _ h)
  have htM := fun w h => hts w (List.mem_cons_of_mem _ (List.mem_append_left _ h))
  have J69 : ∀  (H : Heap) (locs : List Loc) (ls : Array Slot), lv_has ls 1 [(0, .ref h0)] → va_P D vwC2 (wdM cI h0 a0 a1 a2 a9 g3 g4 g5 g6 g7 g8 g10 g11 g12 g13 g14 g15 g16 g17 g18 r0 r1 r2 r9) H → va_D A (wdM cI h0 a0 a1 a2 a9 g3 g4 g5 g6 g7 g8 g10 g11 g12 g13 g14 g15 g16 g17 g18 r0 r1 r2 r9) → va_S A s.heap H locs → bM_consistent_69 g3 g4 g5 g6 g7 g8 g10 g11 g12 g13 g14 g15 g16 g17 g18 r0 r1 r2 r9 = X → W p l e (headSpec wsXM_consistent rmM_consistent).room s m ([.ref h0] : List Value).toArray below meth c H locs 0 0 Q (F0 m 69 ls []) := by
    intro  H locs ls hl hP hD hS hX
    unfold bM_consistent_69 at hX
    refine lv_iconst (v := 0) hx hb dXM_consistent_69 (by decide +kernel) ?_
    subst hQ
    exact W.zret (ty := .boolean) (v := 0) hx hb hr (by decide +kernel) (fun t ht hW => ⟨⟨0, (g3, g4, g5, g6, g7, g8, g10, g11, g12, g13, g14, g15, g16, g17, g18, r0, r1, r2, r9), rfl, ⟨hX, rfl⟩, by rw [ht]; exact hP, va_K.moved hW.alike hK, hD⟩, hS.F ht⟩) hS.2.2 dXM_consistent_70
  unfold sM_consistent at hX
  unfold bM_consistent_0 at hX
  refine lv_aload_n hx hb dXM_consistent_0 rfl (lv_at hl 0 rfl) ?_
  refine va_get (D := D) (ci := 1) (v := .ref a0) (C := RXM) (T := TXM) (N := 19) hx hb hts hinU hown hK hP 0 rfl rfl 0 (by decide) (htM _ wM_5) (fun _ h9 => h9) rfl dXM_consistent_1 ?_
  refine lv_bipush (v := 6) hx hb dXM_consistent_4 (by decide +kernel) ?_
  refine bw_ld hx hb hK hP 1 0 rfl rfl 6 (by decide +kernel) (bw_in (by decide +kernel)) dXM_consistent_6 ?_
  refine lv_bipush (v := 20) hx hb dXM_consistent_7 (by decide +kernel) ?_
  refine lv_iadd hx hb dXM_consistent_9 ?_
  refine lv_aload_n hx hb dXM_consistent_10 rfl (lv_at hl 0 rfl) ?_
  refine va_get (D := D) (ci := 1) (v := .ref a0) (C := RXM) (T := TXM) (N := 19) hx hb hts hinU hown hK hP 0 rfl rfl 0 (by decide) (htM _ wM_5) (fun _ h9 => h9) rfl dXM_consistent_11 ?_
  refine lv_bipush (v := 7) hx hb dXM_consistent_14 (by decide +kernel) ?_
  refine bw_ld hx hb hK hP 1 0 rfl rfl 7 (by decide +kernel) (bw_in (by decide +kernel)) dXM_consistent_16 ?_
  refine lv_icmp_gt (tgt := 69) hx hb dXM_consistent_17 (by decide) (fun hc17 => ?_) (fun hc17 => ?_)
  · rw [if_pos hc17] at hX
    exact J69  _ _ ls (lv_sub hl [0] rfl) hP hD hS hX
  · rw [if_neg hc17] at hX
    unfold bM_consistent_20 at hX
    refine lv_aload_n hx hb dXM_consistent_20 rfl (lv_at hl 0 rfl) ?_
    refine va_get (D := D) (ci := 1) (v := .ref a0) (C := RXM) (T := TXM) (N := 19) hx hb hts hinU hown hK hP 0 rfl rfl 0 (by decide) (htM _ wM_5) (fun _ h9 => h9) rfl dXM_consistent_21 ?_
    refine lv_bipush (v := 8) hx hb dXM_consistent_24 (by decide +kernel) ?_
    refine bw_ld hx hb hK hP 1 0 rfl rfl 8 (by decide +kernel) (bw_in (by decide +kernel)) dXM_consistent_26 ?_
    refine lv_bipush (v := 20) hx hb dXM_consistent_27 (by decide +kernel) ?_
    refine lv_iadd hx hb dXM_consistent_29 ?_
    refine lv_aload_n hx hb dXM_consistent_30 rfl (lv_at hl 0 rfl) ?_
    refine va_get (D := D) (ci := 1) (v := .ref a0) (C := RXM) (T := TXM) (N := 19) hx hb hts hinU hown hK hP 0 rfl rfl 0 (by decide) (htM _ wM_5) (fun _ h9 => h9) rfl dXM_consistent_31 ?_
    refine lv_bipush (v := 9) hx hb dXM_consistent_34 (by decide +kernel) ?_
    refine bw_ld hx hb hK hP 1 0 rfl rfl 9 (by decide +kernel) (bw_in (by decide +kernel)) dXM_consistent_36 ?_
    refine lv_icmp_gt (tgt := 69) hx hb dXM_consistent_37 (by decide) (fun hc37 => ?_) (fun hc37 => ?_)
    · rw [if_pos hc37] at hX
      exact J69  _ _ ls (lv_sub hl [0] rfl) hP hD hS hX
    · rw [if_neg hc37] at hX
      unfold bM_consistent_40 at hX
      refine lv_bipush (v := 60) hx hb dXM_consistent_40 (by decide +kernel) ?_
      refine lv_aload_n hx hb dXM_consistent_42 rfl (lv_at hl 0 rfl) ?_
      refine va_get (D := D) (ci := 1) (v := .ref a0) (C := RXM) (T := TXM) (N := 19) hx hb hts hinU hown hK hP 0 rfl rfl 0 (by decide) (htM _ wM_5) (fun _ h9 => h9) rfl dXM_consistent_43 ?_
      refine lv_iconst (v := 1) hx hb dXM_consistent_46 (by decide +kernel) ?_
      refine bw_ld hx hb hK hP 1 0 rfl rfl 1 (by decide +kernel) (bw_in (by decide +kernel)) dXM_consistent_47 ?_
      refine lv_imul hx hb dXM_consistent_48 ?_
      refine lv_aload_n hx hb dXM_consistent_49 rfl (lv_at hl 0 rfl) ?_
      refine va_get (D := D) (ci := 1) (v := .ref a0) (C := RXM) (T := TXM) (N := 19) hx hb hts hinU hown hK hP 0 rfl rfl 0 (by decide) (htM _ wM_5) (fun _ h9 => h9) rfl dXM_consistent_50 ?_
      refine lv_iconst (v := 2) hx hb dXM_consistent_53 (by decide +kernel) ?_
      refine bw_ld hx hb hK hP 1 0 rfl rfl 2 (by decide +kernel) (bw_in (by decide +kernel)) dXM_consistent_54 ?_
      refine lv_aload_n hx hb dXM_consistent_55 rfl (lv_at hl 0 rfl) ?_
      refine va_get (D := D) (ci := 1) (v := .ref a0) (C := RXM) (T := TXM) (N := 19) hx hb hts hinU hown hK hP 0 rfl rfl 0 (by decide) (htM _ wM_5) (fun _ h9 => h9) rfl dXM_consistent_56 ?_
      refine lv_iconst (v := 3) hx hb dXM_consistent_59 (by decide +kernel) ?_
      refine bw_ld hx hb hK hP 1 0 rfl rfl 3 (by decide +kernel) (bw_in (by decide +kernel)) dXM_consistent_60 ?_
      refine lv_imul hx hb dXM_consistent_61 ?_
      refine lv_icmp_gt (tgt := 69) hx hb dXM_consistent_62 (by decide) (fun hc62 => ?_) (fun hc62 => ?_)
      · rw [if_pos hc62] at hX
        exact J69  _ _ ls (lv_sub hl [0] rfl) hP hD hS hX
      · rw [if_neg hc62] at hX
        unfold bM_consistent_65 at hX
        refine lv_iconst (v := 1) hx hb dXM_consistent_65 (by decide +kernel) ?_
        refine lv_goto (tgt := 70) hx hb dXM_consistent_66 (by decide) ?_
        subst hQ
        exact W.zret (ty := .boolean) (v := 1) hx hb hr (by decide +kernel) (fun t ht hW => ⟨⟨1, (g3, g4, g5, g6, g7, g8, g10, g11, g12, g13, g14, g15, g16, g17, g18, r0, r1, r2, r9), rfl, ⟨hX, rfl⟩, by rw [ht]; exact hP, va_K.moved hW.alike hK, hD⟩, hS.F ht⟩) hS.2.2 dXM_consistent_70
abbrev rmM_isPlausible : Room := { frames := 0, cells := 0, slots := 0, locals := 0 }
set_option maxHeartbeats 4000000 in
set_option maxRecDepth 100000 in
theorem ctM_isPlausible (l : Launch) (D : va_G) (cI : ClassId) (h0 a0 a1 a2 a9 sz : Nat) (g3 g4 g5 g6 g7 g8 g10 g11 g12 g13 g14 g15 g16 g17 g18 : Int32) (r0 r1 r2 r9 : Nat → Int32) (k1 : Int32) (hk : vp_in k1 6) : Met l yXM_isPlausible wsXM_isPlausible rmM_isPlausible (va_Pc [.ref h0, .int k1] (bw_pr D vwC2 [(cI, .int)] (wdM cI h0 a0 a1 a2 a9 g3 g4 g5 g6 g7 g8 g10 g11 g12 g13 g14 g15 g16 g17 g18 r0 r1 r2 r9) sz (fun _ => True))) (va_Qi (fun r u => r = sM_isPlausible g3 g4 g5 g6 g7 g8 g10 g11 g12 g13 g14 g15 g16 g17 g18 r0 r1 r2 r9 k1 ∧ u = (g3, g4, g5, g6, g7, g8, g10, g11, g12, g13, g14, g15, g16, g17, g18, r0, r1, r2, r9)) (bw_at D vwC2 [(cI, .int)] (wfM cI h0 a0 a1 a2 a9) (va_A (wdM cI h0 a0 a1 a2 a9 g3 g4 g5 g6 g7 g8 g10 g11 g12 g13 g14 g15 g16 g17 g18 r0 r1 r2 r9) sz)) (va_A (wdM cI h0 a0 a1 a2 a9 g3 g4 g5 g6 g7 g8 g10 g11 g12 g13 g14 g15 g16 g17 g18 r0 r1 r2 r9) sz)) 0 0 (va_A (wdM cI h0 a0 a1 a2 a9 g3 g4 g5 g6 g7 g8 g10 g11 g12 g13 g14 g15 g16 g17 g18 r0 r1 r2 r9) sz) := by
  refine Met.ofW (cc := cXM_isPlausible) (maxL := 4) (ret := (some .boolean)) (by decide) rfl ?_
  intro p e s m args below meth c s₁ B hml hv
  obtain ⟨rfl, hsz, hP, hK, hD0, hT⟩ := hv
  have hx := B.exec
  have hb := B.bytes
  have hr := B.returns
  have hts := atoms_spec (ws := wsXM_isPlausible) B.pre
  have hown : s.vm.findClass RXM = some m.cls := findClass_of_methodNamed B.named
  have hlocks := B.notSynchronized
  subst hsz
  have hD := hD0.self (sz := s.heap.size)
  generalize hAe : va_A (wdM cI h0 a0 a1 a2 a9 g3 g4 g5 g6 g7 g8 g10 g11 g12 g13 g14 g15 g16 g17 g18 r0 r1 r2 r9) s.heap.size = A at hD hT ⊢
  have hA : ∀ q : Nat, s.heap.size ≤ q → A q := fun q h => by rw [← hAe]; exact Or.inr h
  have hS : va_S A s.heap s.heap [] := va_S.rf
  have hl := lv_entry ([.ref h0, .int k1]) (n := 4) (Nat.le_of_ble_eq_true rfl)
  rw [lg_entry_eq]
  generalize (lg_sl ([.ref h0, .int k1]) ++ List.replicate (4 - (lg_sl ([.ref h0, .int k1])).length) Slot.unset).toArray = ls at hl ⊢
  have hl : lv_has ls 4 [(0, .ref h0), (1, .int k1)] := hl
  generalize hX : sM_isPlausible g3 g4 g5 g6 g7 g8 g10 g11 g12 g13 g14 g15 g16 g17 g18 r0 r1 r2 r9 k1 = X
  refine bw_Q (fun Q hQ => ?_)
  have hinU : ∀ w ∈ wsXM0, w ∈ wsXM_isPlausible := fun w h => List.mem_cons_of_mem _ (List.mem_append_right _ h)
  have htM := fun w h => hts w (List.mem_cons_of_mem _ (List.mem_append_left _ h))
  have J92 : ∀  (H : Heap) (locs : List Loc) (ls : Array Slot), lv_has ls 4 [(0, .ref h0)] → va_P D vwC2 (wdM cI h0 a0 a1 a2 a9 g3 g4 g5 g6 g7 g8 g10 g11 g12 g13 g14 g15 g16 g17 g18 r0 r1 r2 r9) H → va_D A (wdM cI h0 a0 a1 a2 a9 g3 g4 g5 g6 g7 g8 g10 g11 g12 g13 g14 g15 g16 g17 g18 r0 r1 r2 r9) → va_S A s.heap H locs → bM_isPlausible_92 g3 g4 g5 g6 g7 g8 g10 g11 g12 g13 g14 g15 g16 g17 g18 r0 r1 r2 r9 = X → W p l e (headSpec wsXM_isPlausible rmM_isPlausible).room s m ([.ref h0, .int k1] : List Value).toArray below meth c H locs 0 0 Q (F0 m 92 ls []) := by
    intro  H locs ls hl hP hD hS hX
    unfold bM_isPlausible_92 at hX
    refine lv_iconst (v := 0) hx hb dXM_isPlausible_92 (by decide +kernel) ?_
    subst hQ
    exact W.zret (ty := .boolean) (v := 0) hx hb hr (by decide +kernel) (fun t ht hW => ⟨⟨0, (g3, g4, g5, g6, g7, g8, g10, g11, g12, g13, g14, g15, g16, g17, g18, r0, r1, r2, r9), rfl, ⟨hX, rfl⟩, by rw [ht]; exact hP, va_K.moved hW.alike hK, hD⟩, hS.F ht⟩) hS.2.2 dXM_isPlausible_93
  have J67 : ∀ (x2 : Int32) (y0 : Int32) (H : Heap) (locs : List Loc) (ls : Array Slot), lv_has ls 4 [(0, .ref h0), (1, .int k1), (2, .int x2)] → va_P D vwC2 (wdM cI h0 a0 a1 a2 a9 g3 g4 g5 g6 g7 g8 g10 g11 g12 g13 g14 g15 g16 g17 g18 r0 r1 r2 r9) H → va_D A (wdM cI h0 a0 a1 a2 a9 g3 g4 g5 g6 g7 g8 g10 g11 g12 g13 g14 g15 g16 g17 g18 r0 r1 r2 r9) → va_S A s.heap H locs → bM_isPlausible_67 g3 g4 g5 g6 g7 g8 g10 g11 g12 g13 g14 g15 g16 g17 g18 r0 r1 r2 r9 k1 x2 y0 = X → W p l e (headSpec wsXM_isPlausible rmM_isPlausible).room s m ([.ref h0, .int k1] : List Value).toArray below meth c H locs 0 0 Q (F0 m 67 ls [.int y0]) := by
    intro x2 y0 H locs ls hl hP hD hS hX
    unfold bM_isPlausible_67 at hX
    refine lv_istore_n (lv' := [(3, .int y0), (0, .ref h0), (1, .int k1), (2, .int x2)]) hx hb dXM_isPlausible_67 rfl hl (by decide) rfl (fun ls hl => ?_)
    refine lv_aload_n hx hb dXM_isPlausible_68 rfl (lv_at hl 1 rfl) ?_
    refine va_get (D := D) (ci := 1) (v := .ref a1) (C := RXM) (T := TXM) (N := 19) hx hb hts hinU hown hK hP 0 rfl rfl 1 (by decide) (htM _ wM_6) (fun _ h9 => h9) rfl dXM_isPlausible_69 ?_
    refine lv_iload_n hx hb dXM_isPlausible_72 rfl (lv_at hl 2 rfl) ?_
    refine va_iald hx hb hK hP 2 0 rfl rfl hk dXM_isPlausible_73 ?_
    refine lv_iload_n hx hb dXM_isPlausible_74 rfl (lv_at hl 3 rfl) ?_
    refine lv_icmp_lt (tgt := 92) hx hb dXM_isPlausible_75 (by decide) (fun hc75 => ?_) (fun hc75 => ?_)
    · rw [if_pos hc75] at hX
      exact J92  _ _ ls (lv_sub hl [1] rfl) hP hD hS hX
    · rw [if_neg hc75] at hX
      unfold bM_isPlausible_78 at hX
      refine lv_aload_n hx hb dXM_isPlausible_78 rfl (lv_at hl 1 rfl) ?_
      refine va_get (D := D) (ci := 1) (v := .ref a1) (C := RXM) (T := TXM) (N := 19) hx hb hts hinU hown hK hP 0 rfl rfl 1 (by decide) (htM _ wM_6) (fun _ h9 => h9) rfl dXM_isPlausible_79 ?_
      refine lv_iload_n hx hb dXM_isPlausible_82 rfl (lv_at hl 2 rfl) ?_
      refine va_iald hx hb hK hP 2 0 rfl rfl hk dXM_isPlausible_83 ?_
      refine lv_iload_n hx hb dXM_isPlausible_84 rfl (lv_at hl 0 rfl) ?_
      refine lv_icmp_gt (tgt := 92) hx hb dXM_isPlausible_85 (by decide) (fun hc85 => ?_) (fun hc85 => ?_)
      · rw [if_pos hc85] at hX
        exact J92  _ _ ls (lv_sub hl [1] rfl) hP hD hS hX
      · rw [if_neg hc85] at hX
        unfold bM_isPlausible_88 at hX
        refine lv_iconst (v := 1) hx hb dXM_isPlausible_88 (by decide +kernel) ?_
        refine lv_goto (tgt := 93) hx hb dXM_isPlausible_89 (by decide) ?_
        subst hQ
        exact W.zret (ty := .boolean) (v := 1) hx hb hr (by decide +kernel) (fun t ht hW => ⟨⟨1, (g3, g4, g5, g6, g7, g8, g10, g11, g12, g13, g14, g15, g16, g17, g18, r0, r1, r2, r9), rfl, ⟨hX, rfl⟩, by rw [ht]; exact hP, va_K.moved hW.alike hK, hD⟩, hS.F ht⟩) hS.2.2 dXM_isPlausible_93
  have J22 : ∀ (y0 : Int32) (H : Heap) (locs : List Loc) (ls : Array Slot), lv_has ls 4 [(0, .ref h0), (1, .int k1)] → va_P D vwC2 (wdM cI h0 a0 a1 a2 a9 g3 g4 g5 g6 g7 g8 g10 g11 g12 g13 g14 g15 g16 g17 g18 r0 r1 r2 r9) H → va_D A (wdM cI h0 a0 a1 a2 a9 g3 g4 g5 g6 g7 g8 g10 g11 g12 g13 g14 g15 g16 g17 g18 r0 r1 r2 r9) → va_S A s.heap H locs → bM_isPlausible_22 g3 g4 g5 g6 g7 g8 g10 g11 g12 g13 g14 g15 g16 g17 g18 r0 r1 r2 r9 k1 y0 = X → W p l e (headSpec wsXM_isPlausible rmM_isPlausible).room s m ([.ref h0, .int k1] : List Value).toArray below meth c H locs 0 0 Q (F0 m 22 ls [.int y0]) := by
    intro y0 H locs ls hl hP hD hS hX
    unfold bM_isPlausible_22 at hX
    refine lv_istore_n (lv' := [(2, .int y0), (0, .ref h0), (1, .int k1)]) hx hb dXM_isPlausible_22 rfl hl (by decide) rfl (fun ls hl => ?_)
    refine lv_iload_n hx hb dXM_isPlausible_23 rfl (lv_at hl 2 rfl) ?_
    refine lv_if_ne (tgt := 33) hx hb dXM_isPlausible_24 (by decide) (fun hc24 => ?_) (fun hc24 => ?_)
    · rw [if_neg hc24] at hX
      unfold bM_isPlausible_33 at hX
      refine lv_iload_n hx hb dXM_isPlausible_33 rfl (lv_at hl 2 rfl) ?_
      refine lv_iconst (v := 1) hx hb dXM_isPlausible_34 (by decide +kernel) ?_
      refine lv_icmp_ne (tgt := 44) hx hb dXM_isPlausible_35 (by decide) (fun hc35 => ?_) (fun hc35 => ?_)
      · rw [if_neg hc35] at hX
        unfold bM_isPlausible_44 at hX
        refine lv_iload_n hx hb dXM_isPlausible_44 rfl (lv_at hl 2 rfl) ?_
        refine lv_iconst (v := 2) hx hb dXM_isPlausible_45 (by decide +kernel) ?_
        refine lv_icmp_ne (tgt := 55) hx hb dXM_isPlausible_46 (by decide) (fun hc46 => ?_) (fun hc46 => ?_)
        · rw [if_neg hc46] at hX
          unfold bM_isPlausible_55 at hX
          refine lv_iload_n hx hb dXM_isPlausible_55 rfl (lv_at hl 2 rfl) ?_
          refine lv_iconst (v := 3) hx hb dXM_isPlausible_56 (by decide +kernel) ?_
          refine lv_icmp_ne (tgt := 66) hx hb dXM_isPlausible_57 (by decide) (fun hc57 => ?_) (fun hc57 => ?_)
          · rw [if_neg hc57] at hX
            unfold bM_isPlausible_66 at hX
            refine lv_iconst (v := 1) hx hb dXM_isPlausible_66 (by decide +kernel) ?_
            exact J67 y0 1 _ _ ls (lv_sub hl [1, 2, 0] rfl) hP hD hS hX
          · rw [if_pos hc57] at hX
            unfold bM_isPlausible_60 at hX
            refine lv_sipush (v := 3000) hx hb dXM_isPlausible_60 (by decide +kernel) ?_
            refine lv_goto (tgt := 67) hx hb dXM_isPlausible_63 (by decide) ?_
            exact J67 y0 3000 _ _ ls (lv_sub hl [1, 2, 0] rfl) hP hD hS hX
        · rw [if_pos hc46] at hX
          unfold bM_isPlausible_49 at hX
          refine lv_sipush (v := 600) hx hb dXM_isPlausible_49 (by decide +kernel) ?_
          refine lv_goto (tgt := 67) hx hb dXM_isPlausible_52 (by decide) ?_
          exact J67 y0 600 _ _ ls (lv_sub hl [1, 2, 0] rfl) hP hD hS hX
      · rw [if_pos hc35] at hX
        unfold bM_isPlausible_38 at hX
        refine lv_sipush (v := 800) hx hb dXM_isPlausible_38 (by decide +kernel) ?_
        refine lv_goto (tgt := 67) hx hb dXM_isPlausible_41 (by decide) ?_
        exact J67 y0 800 _ _ ls (lv_sub hl [1, 2, 0] rfl) hP hD hS hX
    · rw [if_pos hc24] at hX
      unfold bM_isPlausible_27 at hX
      refine lv_sipush (v := 500) hx hb dXM_isPlausible_27 (by decide +kernel) ?_
      refine lv_goto (tgt := 67) hx hb dXM_isPlausible_30 (by decide) ?_
      exact J67 y0 500 _ _ ls (lv_sub hl [1, 2, 0] rfl) hP hD hS hX
  unfold sM_isPlausible at hX
  unfold bM_isPlausible_0 at hX
  refine lv_iload_n hx hb dXM_isPlausible_0 rfl (lv_at hl 1 rfl) ?_
  refine lv_if_ne (tgt := 10) hx hb dXM_isPlausible_1 (by decide) (fun hc1 => ?_) (fun hc1 => ?_)
  · rw [if_neg hc1] at hX
    unfold bM_isPlausible_10 at hX
    refine lv_iload_n hx hb dXM_isPlausible_10 rfl (lv_at hl 1 rfl) ?_
    refine lv_iconst (v := 1) hx hb dXM_isPlausible_11 (by decide +kernel) ?_
    refine lv_icmp_ne (tgt := 21) hx hb dXM_isPlausible_12 (by decide) (fun hc12 => ?_) (fun hc12 => ?_)
    · rw [if_neg hc12] at hX
      unfold bM_isPlausible_21 at hX
      refine lv_iconst (v := 0) hx hb dXM_isPlausible_21 (by decide +kernel) ?_
      exact J22 0 _ _ ls (lv_sub hl [0, 1] rfl) hP hD hS hX
    · rw [if_pos hc12] at hX
      unfold bM_isPlausible_15 at hX
      refine lv_sipush (v := (-200)) hx hb dXM_isPlausible_15 (by decide +kernel) ?_
      refine lv_goto (tgt := 22) hx hb dXM_isPlausible_18 (by decide) ?_
      exact J22 ((-200)) _ _ ls (lv_sub hl [0, 1] rfl) hP hD hS hX
  · rw [if_pos hc1] at hX
    unfold bM_isPlausible_4 at hX
    refine lv_sipush (v := (-700)) hx hb dXM_isPlausible_4 (by decide +kernel) ?_
    refine lv_goto (tgt := 22) hx hb dXM_isPlausible_7 (by decide) ?_
    exact J22 ((-700)) _ _ ls (lv_sub hl [0, 1] rfl) hP hD hS hX
abbrev rmM_set : Room := { frames := 1, cells := 0, slots := 0, locals := 21 }
set_option maxHeartbeats 4000000 in
set_option maxRecDepth 100000 in
theorem ctM_set (l : Launch) (D : va_G) (cI : ClassId) (h0 a0 a1 a2 a9 sz : Nat) (g3 g4 g5 g6 g7 g8 g10 g11 g12 g13 g14 g15 g16 g17 g18 : Int32) (r0 r1 r2 r9 : Nat → Int32) (k1 k2 : Int32)  : Met l yXM_set wsXM_set rmM_set (va_Pc [.ref h0, .int k1, .int k2] (bw_pr D vwC2 [(cI, .int)] (wdM cI h0 a0 a1 a2 a9 g3 g4 g5 g6 g7 g8 g10 g11 g12 g13 g14 g15 g16 g17 g18 r0 r1 r2 r9) sz (fun _ => True))) (va_Qi (fun r u => (r, u) = sM_set g3 g4 g5 g6 g7 g8 g10 g11 g12 g13 g14 g15 g16 g17 g18 r0 r1 r2 r9 k1 k2) (bw_at D vwC2 [(cI, .int)] (wfM cI h0 a0 a1 a2 a9) (va_A (wdM cI h0 a0 a1 a2 a9 g3 g4 g5 g6 g7 g8 g10 g11 g12 g13 g14 g15 g16 g17 g18 r0 r1 r2 r9) sz)) (va_A (wdM cI h0 a0 a1 a2 a9 g3 g4 g5 g6 g7 g8 g10 g11 g12 g13 g14 g15 g16 g17 g18 r0 r1 r2 r9) sz)) 0 0 (va_A (wdM cI h0 a0 a1 a2 a9 g3 g4 g5 g6 g7 g8 g10 g11 g12 g13 g14 g15 g16 g17 g18 r0 r1 r2 r9) sz) := by
  refine Met.ofW (cc := cXM_set) (maxL := 3) (ret := (some .boolean)) (by decide) rfl ?_
  intro p e s m args below meth c s₁ B hml hv
  obtain ⟨rfl, hsz, hP, hK, hD0, hT⟩ := hv
  have hx := B.exec
  have hb := B.bytes
  have hr := B.returns
  have hts := atoms_spec (ws := wsXM_set) B.pre
  have hown : s.vm.findClass RXM = some m.cls := findClass_of_methodNamed B.named
  have hlocks := B.notSynchronized
  subst hsz
  have hD := hD0.self (sz := s.heap.size)
  generalize hAe : va_A (wdM cI h0 a0 a1 a2 a9 g3 g4 g5 g6 g7 g8 g10 g11 g12 g13 g14 g15 g16 g17 g18 r0 r1 r2 r9) s.heap.size = A at hD hT ⊢
  have hA : ∀ q : Nat, s.heap.size ≤ q → A q := fun q h => by rw [← hAe]; exact Or.inr h
  have hS : va_S A s.heap s.heap [] := va_S.rf
  have hl := lv_entry ([.ref h0, .int k1, .int k2]) (n := 3) (Nat.le_of_ble_eq_true rfl)
  rw [lg_entry_eq]
  generalize (lg_sl ([.ref h0, .int k1, .int k2]) ++ List.replicate (3 - (lg_sl ([.ref h0, .int k1, .int k2])).length) Slot.unset).toArray = ls at hl ⊢
  have hl : lv_has ls 3 [(0, .ref h0), (1, .int k1), (2, .int k2)] := hl
  generalize hX : sM_set g3 g4 g5 g6 g7 g8 g10 g11 g12 g13 g14 g15 g16 g17 g18 r0 r1 r2 r9 k1 k2 = X
  refine bw_Q (fun Q hQ => ?_)
  have hinU : ∀ w ∈ wsXM0, w ∈ wsXM_set := fun w h => List.mem_cons_of_mem _ (List.mem_append_right _ h)
  have htM := fun w h => hts w (List.mem_cons_of_mem _ (List.mem_append_left _ h))
  have J33 : ∀ (g3 g4 g5 g6 g7 g8 g10 g11 g12 g13 g14 g15 g16 g17 g18 : Int32) (r0 r1 r2 r9 : Nat → Int32) (H : Heap) (locs : List Loc) (ls : Array Slot), lv_has ls 3 [(0, .ref h0)] → va_P D vwC2 (wdM cI h0 a0 a1 a2 a9 g3 g4 g5 g6 g7 g8 g10 g11 g12 g13 g14 g15 g16 g17 g18 r0 r1 r2 r9) H → va_D A (wdM cI h0 a0 a1 a2 a9 g3 g4 g5 g6 g7 g8 g10 g11 g12 g13 g14 g15 g16 g17 g18 r0 r1 r2 r9) → va_S A s.heap H locs → bM_set_33 g3 g4 g5 g6 g7 g8 g10 g11 g12 g13 g14 g15 g16 g17 g18 r0 r1 r2 r9 = X → W p l e (headSpec wsXM_set rmM_set).room s m ([.ref h0, .int k1, .int k2] : List Value).toArray below meth c H locs 0 0 Q (F0 m 33 ls []) := by
    intro g3 g4 g5 g6 g7 g8 g10 g11 g12 g13 g14 g15 g16 g17 g18 r0 r1 r2 r9 H locs ls hl hP hD hS hX
    unfold bM_set_33 at hX
    refine lv_iconst (v := 0) hx hb dXM_set_33 (by decide +kernel) ?_
    subst hQ
    exact W.zret (ty := .boolean) (v := 0) hx hb hr (by decide +kernel) (fun t ht hW => ⟨⟨0, (g3, g4, g5, g6, g7, g8, g10, g11, g12, g13, g14, g15, g16, g17, g18, r0, r1, r2, r9), rfl, hX, by rw [ht]; exact hP, va_K.moved hW.alike hK, hD⟩, hS.F ht⟩) hS.2.2 dXM_set_34
  unfold sM_set at hX
  unfold bM_set_0 at hX
  refine lv_iload_n hx hb dXM_set_0 rfl (lv_at hl 1 rfl) ?_
  refine lv_if_lt (tgt := 33) hx hb dXM_set_1 (by decide) (fun hc1 => ?_) (fun hc1 => ?_)
  · rw [if_pos hc1] at hX
    exact J33 g3 g4 g5 g6 g7 g8 g10 g11 g12 g13 g14 g15 g16 g17 g18 r0 r1 r2 r9 _ _ ls (lv_sub hl [0] rfl) hP hD hS hX
  · rw [if_neg hc1] at hX
    unfold bM_set_4 at hX
    refine lv_iload_n hx hb dXM_set_4 rfl (lv_at hl 1 rfl) ?_
    refine lv_bipush (v := 9) hx hb dXM_set_5 (by decide +kernel) ?_
    refine lv_icmp_gt (tgt := 33) hx hb dXM_set_7 (by decide) (fun hc7 => ?_) (fun hc7 => ?_)
    · rw [if_pos hc7] at hX
      exact J33 g3 g4 g5 g6 g7 g8 g10 g11 g12 g13 g14 g15 g16 g17 g18 r0 r1 r2 r9 _ _ ls (lv_sub hl [0] rfl) hP hD hS hX
    · rw [if_neg hc7] at hX
      unfold bM_set_10 at hX
      refine lv_aload_n hx hb dXM_set_10 rfl (lv_at hl 0 rfl) ?_
      refine va_get (D := D) (ci := 1) (v := .int g3) (C := RXM) (T := TXM) (N := 19) hx hb hts hinU hown hK hP 0 rfl rfl 3 (by decide) (htM _ wM_8) (fun _ h9 => h9) rfl dXM_set_11 ?_
      refine lv_if_ne (tgt := 33) hx hb dXM_set_14 (by decide) (fun hc14 => ?_) (fun hc14 => ?_)
      · rw [if_neg hc14] at hX
        exact J33 g3 g4 g5 g6 g7 g8 g10 g11 g12 g13 g14 g15 g16 g17 g18 r0 r1 r2 r9 _ _ ls (lv_sub hl [0] rfl) hP hD hS hX
      · rw [if_pos hc14] at hX
        unfold bM_set_17 at hX
        refine lv_iload_n hx hb dXM_set_17 rfl (lv_at hl 2 rfl) ?_
        refine lv_iload_n hx hb dXM_set_18 rfl (lv_at hl 1 rfl) ?_
        refine bw_Si (As := [.int k1]) (rest := [.int k2]) ⟨hx, hb, hml, hown, hts⟩ (ctM_least l _ k1) (va_cwS 1 hts gXM_set_XM_least rfl rfl rfl (by decide +kernel) ⟨Nat.le_of_ble_eq_true rfl, Nat.le_of_ble_eq_true rfl⟩) hP hS hA rfl hl.1 rfl (Nat.le_of_ble_eq_true rfl) dXM_set_19 ⟨Nat.le_of_ble_eq_true rfl, Nat.le_of_ble_eq_true rfl⟩ (fun H locs hP hS => ?_)
        refine lv_icmp_lt (tgt := 33) hx hb dXM_set_22 (by decide) (fun hc22 => ?_) (fun hc22 => ?_)
        · rw [if_pos hc22] at hX
          exact J33 g3 g4 g5 g6 g7 g8 g10 g11 g12 g13 g14 g15 g16 g17 g18 r0 r1 r2 r9 _ _ ls (lv_sub hl [0] rfl) hP hD hS hX
        · rw [if_neg hc22] at hX
          unfold bM_set_25 at hX
          refine lv_iload_n hx hb dXM_set_25 rfl (lv_at hl 2 rfl) ?_
          refine lv_iload_n hx hb dXM_set_26 rfl (lv_at hl 1 rfl) ?_
          refine bw_Si (As := [.int k1]) (rest := [.int k2]) ⟨hx, hb, hml, hown, hts⟩ (ctM_most l _ k1) (va_cwS 1 hts gXM_set_XM_most rfl rfl rfl (by decide +kernel) ⟨Nat.le_of_ble_eq_true rfl, Nat.le_of_ble_eq_true rfl⟩) hP hS hA rfl hl.1 rfl (Nat.le_of_ble_eq_true rfl) dXM_set_27 ⟨Nat.le_of_ble_eq_true rfl, Nat.le_of_ble_eq_true rfl⟩ (fun H locs hP hS => ?_)
          refine lv_icmp_le (tgt := 35) hx hb dXM_set_30 (by decide) (fun hc30 => ?_) (fun hc30 => ?_)
          · rw [if_pos hc30] at hX
            unfold bM_set_35 at hX
            refine lv_aload_n hx hb dXM_set_35 rfl (lv_at hl 0 rfl) ?_
            refine va_get (D := D) (ci := 1) (v := .ref a0) (C := RXM) (T := TXM) (N := 19) hx hb hts hinU hown hK hP 0 rfl rfl 0 (by decide) (htM _ wM_5) (fun _ h9 => h9) rfl dXM_set_36 ?_
            refine lv_iload_n hx hb dXM_set_39 rfl (lv_at hl 1 rfl) ?_
            refine lv_iload_n hx hb dXM_set_40 rfl (lv_at hl 2 rfl) ?_
            refine va_iast hx hb hK hP hD hS 1 0 rfl rfl (in9g hc1 hc7) dXM_set_41 (fun H locs hP hD hS => ?_)
            have hP : va_P D vwC2 (wdM cI h0 a0 a1 a2 a9 g3 g4 g5 g6 g7 g8 g10 g11 g12 g13 g14 g15 g16 g17 g18 (upd r0 k1.toNatClampNeg k2) r1 r2 r9) H := hP
            have hD : va_D A (wdM cI h0 a0 a1 a2 a9 g3 g4 g5 g6 g7 g8 g10 g11 g12 g13 g14 g15 g16 g17 g18 (upd r0 k1.toNatClampNeg k2) r1 r2 r9) := hD
            refine lv_iconst (v := 1) hx hb dXM_set_42 (by decide +kernel) ?_
            subst hQ
            exact W.zret (ty := .boolean) (v := 1) hx hb hr (by decide +kernel) (fun t ht hW => ⟨⟨1, (g3, g4, g5, g6, g7, g8, g10, g11, g12, g13, g14, g15, g16, g17, g18, upd r0 k1.toNatClampNeg k2, r1, r2, r9), rfl, hX, by rw [ht]; exact hP, va_K.moved hW.alike hK, hD⟩, hS.F ht⟩) hS.2.2 dXM_set_43
          · rw [if_neg hc30] at hX
            exact J33 g3 g4 g5 g6 g7 g8 g10 g11 g12 g13 g14 g15 g16 g17 g18 r0 r1 r2 r9 _ _ ls (lv_sub hl [0] rfl) hP hD hS hX
abbrev rmM_parameter : Room := { frames := 0, cells := 0, slots := 0, locals := 0 }
set_option maxHeartbeats 4000000 in
set_option maxRecDepth 100000 in
theorem ctM_parameter (l : Launch) (D : va_G) (cI : ClassId) (h0 a0 a1 a2 a9 sz : Nat) (g3 g4 g5 g6 g7 g8 g10 g11 g12 g13 g14 g15 g16 g17 g18 : Int32) (r0 r1 r2 r9 : Nat → Int32) (k1 : Int32)  : Met l yXM_parameter wsXM_parameter rmM_parameter (va_Pc [.ref h0, .int k1] (bw_pr D vwC2 [(cI, .int)] (wdM cI h0 a0 a1 a2 a9 g3 g4 g5 g6 g7 g8 g10 g11 g12 g13 g14 g15 g16 g17 g18 r0 r1 r2 r9) sz (fun _ => True))) (va_Qi (fun r u => r = sM_parameter g3 g4 g5 g6 g7 g8 g10 g11 g12 g13 g14 g15 g16 g17 g18 r0 r1 r2 r9 k1 ∧ u = (g3, g4, g5, g6, g7, g8, g10, g11, g12, g13, g14, g15, g16, g17, g18, r0, r1, r2, r9)) (bw_at D vwC2 [(cI, .int)] (wfM cI h0 a0 a1 a2 a9) (va_A (wdM cI h0 a0 a1 a2 a9 g3 g4 g5 g6 g7 g8 g10 g11 g12 g13 g14 g15 g16 g17 g18 r0 r1 r2 r9) sz)) (va_A (wdM cI h0 a0 a1 a2 a9 g3 g4 g5 g6 g7 g8 g10 g11 g12 g13 g14 g15 g16 g17 g18 r0 r1 r2 r9) sz)) 0 0 (va_A (wdM cI h0 a0 a1 a2 a9 g3 g4 g5 g6 g7 g8 g10 g11 g12 g13 g14 g15 g16 g17 g18 r0 r1 r2 r9) sz) := by
  refine Met.ofW (cc := cXM_parameter) (maxL := 2) (ret := (some .int)) (by decide) rfl ?_
  intro p e s m args below meth c s₁ B hml hv
  obtain ⟨rfl, hsz, hP, hK, hD0, hT⟩ := hv
  have hx := B.exec
  have hb := B.bytes
  have hr := B.returns
  have hts := atoms_spec (ws := wsXM_parameter) B.pre
  have hown : s.vm.findClass RXM = some m.cls := findClass_of_methodNamed B.named
  have hlocks := B.notSynchronized
  subst hsz
  have hD := hD0.self (sz := s.heap.size)
  generalize hAe : va_A (wdM cI h0 a0 a1 a2 a9 g3 g4 g5 g6 g7 g8 g10 g11 g12 g13 g14 g15 g16 g17 g18 r0 r1 r2 r9) s.heap.size = A at hD hT ⊢
  have hA : ∀ q : Nat, s.heap.size ≤ q → A q := fun q h => by rw [← hAe]; exact Or.inr h
  have hS : va_S A s.heap s.heap [] := va_S.rf
  have hl := lv_entry ([.ref h0, .int k1]) (n := 2) (Nat.le_of_ble_eq_true rfl)
  rw [lg_entry_eq]
  generalize (lg_sl ([.ref h0, .int k1]) ++ List.replicate (2 - (lg_sl ([.ref h0, .int k1])).length) Slot.unset).toArray = ls at hl ⊢
  have hl : lv_has ls 2 [(0, .ref h0), (1, .int k1)] := hl
  generalize hX : sM_parameter g3 g4 g5 g6 g7 g8 g10 g11 g12 g13 g14 g15 g16 g17 g18 r0 r1 r2 r9 k1 = X
  refine bw_Q (fun Q hQ => ?_)
  have hinU : ∀ w ∈ wsXM0, w ∈ wsXM_parameter := fun w h => List.mem_cons_of_mem _ (List.mem_append_right _ h)
  have htM := fun w h => hts w (List.mem_cons_of_mem _ (List.mem_append_left _ h))
  have J10 : ∀  (H : Heap) (locs : List Loc) (ls : Array Slot), lv_has ls 2 [(0, .ref h0)] → va_P D vwC2 (wdM cI h0 a0 a1 a2 a9 g3 g4 g5 g6 g7 g8 g10 g11 g12 g13 g14 g15 g16 g17 g18 r0 r1 r2 r9) H → va_D A (wdM cI h0 a0 a1 a2 a9 g3 g4 g5 g6 g7 g8 g10 g11 g12 g13 g14 g15 g16 g17 g18 r0 r1 r2 r9) → va_S A s.heap H locs → bM_parameter_10 g3 g4 g5 g6 g7 g8 g10 g11 g12 g13 g14 g15 g16 g17 g18 r0 r1 r2 r9 = X → W p l e (headSpec wsXM_parameter rmM_parameter).room s m ([.ref h0, .int k1] : List Value).toArray below meth c H locs 0 0 Q (F0 m 10 ls []) := by
    intro  H locs ls hl hP hD hS hX
    unfold bM_parameter_10 at hX
    refine lv_iconst (v := 0) hx hb dXM_parameter_10 (by decide +kernel) ?_
    refine lv_goto (tgt := 20) hx hb dXM_parameter_11 (by decide) ?_
    subst hQ
    exact W.iret (v := 0) hx hb hr (fun t ht hW => ⟨⟨0, (g3, g4, g5, g6, g7, g8, g10, g11, g12, g13, g14, g15, g16, g17, g18, r0, r1, r2, r9), rfl, ⟨hX, rfl⟩, by rw [ht]; exact hP, va_K.moved hW.alike hK, hD⟩, hS.F ht⟩) hS.2.2 dXM_parameter_20
  unfold sM_parameter at hX
  unfold bM_parameter_0 at hX
  refine lv_iload_n hx hb dXM_parameter_0 rfl (lv_at hl 1 rfl) ?_
  refine lv_if_lt (tgt := 10) hx hb dXM_parameter_1 (by decide) (fun hc1 => ?_) (fun hc1 => ?_)
  · rw [if_pos hc1] at hX
    exact J10  _ _ ls (lv_sub hl [0] rfl) hP hD hS hX
  · rw [if_neg hc1] at hX
    unfold bM_parameter_4 at hX
    refine lv_iload_n hx hb dXM_parameter_4 rfl (lv_at hl 1 rfl) ?_
    refine lv_bipush (v := 9) hx hb dXM_parameter_5 (by decide +kernel) ?_
    refine lv_icmp_le (tgt := 14) hx hb dXM_parameter_7 (by decide) (fun hc7 => ?_) (fun hc7 => ?_)
    · rw [if_pos hc7] at hX
      unfold bM_parameter_14 at hX
      refine lv_aload_n hx hb dXM_parameter_14 rfl (lv_at hl 0 rfl) ?_
      refine va_get (D := D) (ci := 1) (v := .ref a0) (C := RXM) (T := TXM) (N := 19) hx hb hts hinU hown hK hP 0 rfl rfl 0 (by decide) (htM _ wM_5) (fun _ h9 => h9) rfl dXM_parameter_15 ?_
      refine lv_iload_n hx hb dXM_parameter_18 rfl (lv_at hl 1 rfl) ?_
      refine va_iald hx hb hK hP 1 0 rfl rfl (in9l hc1 hc7) dXM_parameter_19 ?_
      subst hQ
      exact W.iret (v := r0 k1.toNatClampNeg) hx hb hr (fun t ht hW => ⟨⟨r0 k1.toNatClampNeg, (g3, g4, g5, g6, g7, g8, g10, g11, g12, g13, g14, g15, g16, g17, g18, r0, r1, r2, r9), rfl, ⟨hX, rfl⟩, by rw [ht]; exact hP, va_K.moved hW.alike hK, hD⟩, hS.F ht⟩) hS.2.2 dXM_parameter_20
    · rw [if_neg hc7] at hX
      exact J10  _ _ ls (lv_sub hl [0] rfl) hP hD hS hX
abbrev rmM_sense : Room := { frames := 0, cells := 0, slots := 0, locals := 0 }
set_option maxHeartbeats 4000000 in
set_option maxRecDepth 100000 in
theorem ctM_sense (l : Launch) (D : va_G) (cI : ClassId) (h0 a0 a1 a2 a9 sz : Nat) (g3 g4 g5 g6 g7 g8 g10 g11 g12 g13 g14 g15 g16 g17 g18 : Int32) (r0 r1 r2 r9 : Nat → Int32) (k1 k2 : Int32)  : Met l yXM_sense wsXM_sense rmM_sense (va_Pc [.ref h0, .int k1, .int k2] (bw_pr D vwC2 [(cI, .int)] (wdM cI h0 a0 a1 a2 a9 g3 g4 g5 g6 g7 g8 g10 g11 g12 g13 g14 g15 g16 g17 g18 r0 r1 r2 r9) sz (fun _ => True))) (va_Qi (fun r u => (r, u) = sM_sense g3 g4 g5 g6 g7 g8 g10 g11 g12 g13 g14 g15 g16 g17 g18 r0 r1 r2 r9 k1 k2) (bw_at D vwC2 [(cI, .int)] (wfM cI h0 a0 a1 a2 a9) (va_A (wdM cI h0 a0 a1 a2 a9 g3 g4 g5 g6 g7 g8 g10 g11 g12 g13 g14 g15 g16 g17 g18 r0 r1 r2 r9) sz)) (va_A (wdM cI h0 a0 a1 a2 a9 g3 g4 g5 g6 g7 g8 g10 g11 g12 g13 g14 g15 g16 g17 g18 r0 r1 r2 r9) sz)) 0 0 (va_A (wdM cI h0 a0 a1 a2 a9 g3 g4 g5 g6 g7 g8 g10 g11 g12 g13 g14 g15 g16 g17 g18 r0 r1 r2 r9) sz) := by
  refine Met.ofW (cc := cXM_sense) (maxL := 3) (ret := (some .boolean)) (by decide) rfl ?_
  intro p e s m args below meth c s₁ B hml hv
  obtain ⟨rfl, hsz, hP, hK, hD0, hT⟩ := hv
  have hx := B.exec
  have hb := B.bytes
  have hr := B.returns
  have hts := atoms_spec (ws := wsXM_sense) B.pre
  have hown : s.vm.findClass RXM = some m.cls := findClass_of_methodNamed B.named
  have hlocks := B.notSynchronized
  subst hsz
  have hD := hD0.self (sz := s.heap.size)
  generalize hAe : va_A (wdM cI h0 a0 a1 a2 a9 g3 g4 g5 g6 g7 g8 g10 g11 g12 g13 g14 g15 g16 g17 g18 r0 r1 r2 r9) s.heap.size = A at hD hT ⊢
  have hA : ∀ q : Nat, s.heap.size ≤ q → A q := fun q h => by rw [← hAe]; exact Or.inr h
  have hS : va_S A s.heap s.heap [] := va_S.rf
  have hl := lv_entry ([.ref h0, .int k1, .int k2]) (n := 3) (Nat.le_of_ble_eq_true rfl)
  rw [lg_entry_eq]
  generalize (lg_sl ([.ref h0, .int k1, .int k2]) ++ List.replicate (3 - (lg_sl ([.ref h0, .int k1, .int k2])).length) Slot.unset).toArray = ls at hl ⊢
  have hl : lv_has ls 3 [(0, .ref h0), (1, .int k1), (2, .int k2)] := hl
  generalize hX : sM_sense g3 g4 g5 g6 g7 g8 g10 g11 g12 g13 g14 g15 g16 g17 g18 r0 r1 r2 r9 k1 k2 = X
  refine bw_Q (fun Q hQ => ?_)
  have hinU : ∀ w ∈ wsXM0, w ∈ wsXM_sense := fun w h => List.mem_cons_of_mem _ (List.mem_append_right _ h)
  have htM := fun w h => hts w (List.mem_cons_of_mem _ (List.mem_append_left _ h))
  have J9 : ∀ (g3 g4 g5 g6 g7 g8 g10 g11 g12 g13 g14 g15 g16 g17 g18 : Int32) (r0 r1 r2 r9 : Nat → Int32) (H : Heap) (locs : List Loc) (ls : Array Slot), lv_has ls 3 [(0, .ref h0)] → va_P D vwC2 (wdM cI h0 a0 a1 a2 a9 g3 g4 g5 g6 g7 g8 g10 g11 g12 g13 g14 g15 g16 g17 g18 r0 r1 r2 r9) H → va_D A (wdM cI h0 a0 a1 a2 a9 g3 g4 g5 g6 g7 g8 g10 g11 g12 g13 g14 g15 g16 g17 g18 r0 r1 r2 r9) → va_S A s.heap H locs → bM_sense_9 g3 g4 g5 g6 g7 g8 g10 g11 g12 g13 g14 g15 g16 g17 g18 r0 r1 r2 r9 = X → W p l e (headSpec wsXM_sense rmM_sense).room s m ([.ref h0, .int k1, .int k2] : List Value).toArray below meth c H locs 0 0 Q (F0 m 9 ls []) := by
    intro g3 g4 g5 g6 g7 g8 g10 g11 g12 g13 g14 g15 g16 g17 g18 r0 r1 r2 r9 H locs ls hl hP hD hS hX
    unfold bM_sense_9 at hX
    refine lv_iconst (v := 0) hx hb dXM_sense_9 (by decide +kernel) ?_
    subst hQ
    exact W.zret (ty := .boolean) (v := 0) hx hb hr (by decide +kernel) (fun t ht hW => ⟨⟨0, (g3, g4, g5, g6, g7, g8, g10, g11, g12, g13, g14, g15, g16, g17, g18, r0, r1, r2, r9), rfl, hX, by rw [ht]; exact hP, va_K.moved hW.alike hK, hD⟩, hS.F ht⟩) hS.2.2 dXM_sense_10
  unfold sM_sense at hX
  unfold bM_sense_0 at hX
  refine lv_iload_n hx hb dXM_sense_0 rfl (lv_at hl 1 rfl) ?_
  refine lv_if_lt (tgt := 9) hx hb dXM_sense_1 (by decide) (fun hc1 => ?_) (fun hc1 => ?_)
  · rw [if_pos hc1] at hX
    exact J9 g3 g4 g5 g6 g7 g8 g10 g11 g12 g13 g14 g15 g16 g17 g18 r0 r1 r2 r9 _ _ ls (lv_sub hl [0] rfl) hP hD hS hX
  · rw [if_neg hc1] at hX
    unfold bM_sense_4 at hX
    refine lv_iload_n hx hb dXM_sense_4 rfl (lv_at hl 1 rfl) ?_
    refine lv_iconst (v := 5) hx hb dXM_sense_5 (by decide +kernel) ?_
    refine lv_icmp_le (tgt := 11) hx hb dXM_sense_6 (by decide) (fun hc6 => ?_) (fun hc6 => ?_)
    · rw [if_pos hc6] at hX
      unfold bM_sense_11 at hX
      refine lv_aload_n hx hb dXM_sense_11 rfl (lv_at hl 0 rfl) ?_
      refine va_get (D := D) (ci := 1) (v := .ref a1) (C := RXM) (T := TXM) (N := 19) hx hb hts hinU hown hK hP 0 rfl rfl 1 (by decide) (htM _ wM_6) (fun _ h9 => h9) rfl dXM_sense_12 ?_
      refine lv_iload_n hx hb dXM_sense_15 rfl (lv_at hl 1 rfl) ?_
      refine lv_iload_n hx hb dXM_sense_16 rfl (lv_at hl 2 rfl) ?_
      refine va_iast hx hb hK hP hD hS 2 0 rfl rfl (in5l hc1 hc6) dXM_sense_17 (fun H locs hP hD hS => ?_)
      have hP : va_P D vwC2 (wdM cI h0 a0 a1 a2 a9 g3 g4 g5 g6 g7 g8 g10 g11 g12 g13 g14 g15 g16 g17 g18 r0 (upd r1 k1.toNatClampNeg k2) r2 r9) H := hP
      have hD : va_D A (wdM cI h0 a0 a1 a2 a9 g3 g4 g5 g6 g7 g8 g10 g11 g12 g13 g14 g15 g16 g17 g18 r0 (upd r1 k1.toNatClampNeg k2) r2 r9) := hD
      refine lv_iconst (v := 1) hx hb dXM_sense_18 (by decide +kernel) ?_
      subst hQ
      exact W.zret (ty := .boolean) (v := 1) hx hb hr (by decide +kernel) (fun t ht hW => ⟨⟨1, (g3, g4, g5, g6, g7, g8, g10, g11, g12, g13, g14, g15, g16, g17, g18, r0, upd r1 k1.toNatClampNeg k2, r2, r9), rfl, hX, by rw [ht]; exact hP, va_K.moved hW.alike hK, hD⟩, hS.F ht⟩) hS.2.2 dXM_sense_19
    · rw [if_neg hc6] at hX
      exact J9 g3 g4 g5 g6 g7 g8 g10 g11 g12 g13 g14 g15 g16 g17 g18 r0 r1 r2 r9 _ _ ls (lv_sub hl [0] rfl) hP hD hS hX
abbrev rmM_conditioned : Room := { frames := 0, cells := 0, slots := 0, locals := 0 }
set_option maxHeartbeats 4000000 in
set_option maxRecDepth 100000 in
theorem ctM_conditioned (l : Launch) (D : va_G) (cI : ClassId) (h0 a0 a1 a2 a9 sz : Nat) (g3 g4 g5 g6 g7 g8 g10 g11 g12 g13 g14 g15 g16 g17 g18 : Int32) (r0 r1 r2 r9 : Nat → Int32) (k1 : Int32)  : Met l yXM_conditioned wsXM_conditioned rmM_conditioned (va_Pc [.ref h0, .int k1] (bw_pr D vwC2 [(cI, .int)] (wdM cI h0 a0 a1 a2 a9 g3 g4 g5 g6 g7 g8 g10 g11 g12 g13 g14 g15 g16 g17 g18 r0 r1 r2 r9) sz (fun _ => True))) (va_Qi (fun r u => r = sM_conditioned g3 g4 g5 g6 g7 g8 g10 g11 g12 g13 g14 g15 g16 g17 g18 r0 r1 r2 r9 k1 ∧ u = (g3, g4, g5, g6, g7, g8, g10, g11, g12, g13, g14, g15, g16, g17, g18, r0, r1, r2, r9)) (bw_at D vwC2 [(cI, .int)] (wfM cI h0 a0 a1 a2 a9) (va_A (wdM cI h0 a0 a1 a2 a9 g3 g4 g5 g6 g7 g8 g10 g11 g12 g13 g14 g15 g16 g17 g18 r0 r1 r2 r9) sz)) (va_A (wdM cI h0 a0 a1 a2 a9 g3 g4 g5 g6 g7 g8 g10 g11 g12 g13 g14 g15 g16 g17 g18 r0 r1 r2 r9) sz)) 0 0 (va_A (wdM cI h0 a0 a1 a2 a9 g3 g4 g5 g6 g7 g8 g10 g11 g12 g13 g14 g15 g16 g17 g18 r0 r1 r2 r9) sz) := by
  refine Met.ofW (cc := cXM_conditioned) (maxL := 2) (ret := (some .int)) (by decide) rfl ?_
  intro p e s m args below meth c s₁ B hml hv
  obtain ⟨rfl, hsz, hP, hK, hD0, hT⟩ := hv
  have hx := B.exec
  have hb := B.bytes
  have hr := B.returns
  have hts := atoms_spec (ws := wsXM_conditioned) B.pre
  have hown : s.vm.findClass RXM = some m.cls := findClass_of_methodNamed B.named
  have hlocks := B.notSynchronized
  subst hsz
  have hD := hD0.self (sz := s.heap.size)
  generalize hAe : va_A (wdM cI h0 a0 a1 a2 a9 g3 g4 g5 g6 g7 g8 g10 g11 g12 g13 g14 g15 g16 g17 g18 r0 r1 r2 r9) s.heap.size = A at hD hT ⊢
  have hA : ∀ q : Nat, s.heap.size ≤ q → A q := fun q h => by rw [← hAe]; exact Or.inr h
  have hS : va_S A s.heap s.heap [] := va_S.rf
  have hl := lv_entry ([.ref h0, .int k1]) (n := 2) (Nat.le_of_ble_eq_true rfl)
  rw [lg_entry_eq]
  generalize (lg_sl ([.ref h0, .int k1]) ++ List.replicate (2 - (lg_sl ([.ref h0, .int k1])).length) Slot.unset).toArray = ls at hl ⊢
  have hl : lv_has ls 2 [(0, .ref h0), (1, .int k1)] := hl
  generalize hX : sM_conditioned g3 g4 g5 g6 g7 g8 g10 g11 g12 g13 g14 g15 g16 g17 g18 r0 r1 r2 r9 k1 = X
  refine bw_Q (fun Q hQ => ?_)
  have hinU : ∀ w ∈ wsXM0, w ∈ wsXM_conditioned := fun w h => List.mem_cons_of_mem _ (List.mem_append_right _ h)
  have htM := fun w h => hts w (List.mem_cons_of_mem _ (List.mem_append_left _ h))
  have J9 : ∀  (H : Heap) (locs : List Loc) (ls : Array Slot), lv_has ls 2 [(0, .ref h0)] → va_P D vwC2 (wdM cI h0 a0 a1 a2 a9 g3 g4 g5 g6 g7 g8 g10 g11 g12 g13 g14 g15 g16 g17 g18 r0 r1 r2 r9) H → va_D A (wdM cI h0 a0 a1 a2 a9 g3 g4 g5 g6 g7 g8 g10 g11 g12 g13 g14 g15 g16 g17 g18 r0 r1 r2 r9) → va_S A s.heap H locs → bM_conditioned_9 g3 g4 g5 g6 g7 g8 g10 g11 g12 g13 g14 g15 g16 g17 g18 r0 r1 r2 r9 = X → W p l e (headSpec wsXM_conditioned rmM_conditioned).room s m ([.ref h0, .int k1] : List Value).toArray below meth c H locs 0 0 Q (F0 m 9 ls []) := by
    intro  H locs ls hl hP hD hS hX
    unfold bM_conditioned_9 at hX
    refine lv_iconst (v := 0) hx hb dXM_conditioned_9 (by decide +kernel) ?_
    refine lv_goto (tgt := 19) hx hb dXM_conditioned_10 (by decide) ?_
    subst hQ
    exact W.iret (v := 0) hx hb hr (fun t ht hW => ⟨⟨0, (g3, g4, g5, g6, g7, g8, g10, g11, g12, g13, g14, g15, g16, g17, g18, r0, r1, r2, r9), rfl, ⟨hX, rfl⟩, by rw [ht]; exact hP, va_K.moved hW.alike hK, hD⟩, hS.F ht⟩) hS.2.2 dXM_conditioned_19
  unfold sM_conditioned at hX
  unfold bM_conditioned_0 at hX
  refine lv_iload_n hx hb dXM_conditioned_0 rfl (lv_at hl 1 rfl) ?_
  refine lv_if_lt (tgt := 9) hx hb dXM_conditioned_1 (by decide) (fun hc1 => ?_) (fun hc1 => ?_)
  · rw [if_pos hc1] at hX
    exact J9  _ _ ls (lv_sub hl [0] rfl) hP hD hS hX
  · rw [if_neg hc1] at hX
    unfold bM_conditioned_4 at hX
    refine lv_iload_n hx hb dXM_conditioned_4 rfl (lv_at hl 1 rfl) ?_
    refine lv_iconst (v := 5) hx hb dXM_conditioned_5 (by decide +kernel) ?_
    refine lv_icmp_le (tgt := 13) hx hb dXM_conditioned_6 (by decide) (fun hc6 => ?_) (fun hc6 => ?_)
    · rw [if_pos hc6] at hX
      unfold bM_conditioned_13 at hX
      refine lv_aload_n hx hb dXM_conditioned_13 rfl (lv_at hl 0 rfl) ?_
      refine va_get (D := D) (ci := 1) (v := .ref a2) (C := RXM) (T := TXM) (N := 19) hx hb hts hinU hown hK hP 0 rfl rfl 2 (by decide) (htM _ wM_7) (fun _ h9 => h9) rfl dXM_conditioned_14 ?_
      refine lv_iload_n hx hb dXM_conditioned_17 rfl (lv_at hl 1 rfl) ?_
      refine va_iald hx hb hK hP 3 0 rfl rfl (in5l hc1 hc6) dXM_conditioned_18 ?_
      subst hQ
      exact W.iret (v := r2 k1.toNatClampNeg) hx hb hr (fun t ht hW => ⟨⟨r2 k1.toNatClampNeg, (g3, g4, g5, g6, g7, g8, g10, g11, g12, g13, g14, g15, g16, g17, g18, r0, r1, r2, r9), rfl, ⟨hX, rfl⟩, by rw [ht]; exact hP, va_K.moved hW.alike hK, hD⟩, hS.F ht⟩) hS.2.2 dXM_conditioned_19
    · rw [if_neg hc6] at hX
      exact J9  _ _ ls (lv_sub hl [0] rfl) hP hD hS hX
abbrev rmM_faulty : Room := { frames := 0, cells := 0, slots := 0, locals := 0 }
set_option maxHeartbeats 4000000 in
set_option maxRecDepth 100000 in
theorem ctM_faulty (l : Launch) (D : va_G) (cI : ClassId) (h0 a0 a1 a2 a9 sz : Nat) (g3 g4 g5 g6 g7 g8 g10 g11 g12 g13 g14 g15 g16 g17 g18 : Int32) (r0 r1 r2 r9 : Nat → Int32) (k1 : Int32)  : Met l yXM_faulty wsXM_faulty rmM_faulty (va_Pc [.ref h0, .int k1] (bw_pr D vwC2 [(cI, .int)] (wdM cI h0 a0 a1 a2 a9 g3 g4 g5 g6 g7 g8 g10 g11 g12 g13 g14 g15 g16 g17 g18 r0 r1 r2 r9) sz (fun _ => True))) (va_Qi (fun r u => r = sM_faulty g3 g4 g5 g6 g7 g8 g10 g11 g12 g13 g14 g15 g16 g17 g18 r0 r1 r2 r9 k1 ∧ u = (g3, g4, g5, g6, g7, g8, g10, g11, g12, g13, g14, g15, g16, g17, g18, r0, r1, r2, r9)) (bw_at D vwC2 [(cI, .int)] (wfM cI h0 a0 a1 a2 a9) (va_A (wdM cI h0 a0 a1 a2 a9 g3 g4 g5 g6 g7 g8 g10 g11 g12 g13 g14 g15 g16 g17 g18 r0 r1 r2 r9) sz)) (va_A (wdM cI h0 a0 a1 a2 a9 g3 g4 g5 g6 g7 g8 g10 g11 g12 g13 g14 g15 g16 g17 g18 r0 r1 r2 r9) sz)) 0 0 (va_A (wdM cI h0 a0 a1 a2 a9 g3 g4 g5 g6 g7 g8 g10 g11 g12 g13 g14 g15 g16 g17 g18 r0 r1 r2 r9) sz) := by
  refine Met.ofW (cc := cXM_faulty) (maxL := 2) (ret := (some .boolean)) (by decide) rfl ?_
  intro p e s m args below meth c s₁ B hml hv
  obtain ⟨rfl, hsz, hP, hK, hD0, hT⟩ := hv
  have hx := B.exec
  have hb := B.bytes
  have hr := B.returns
  have hts := atoms_spec (ws := wsXM_faulty) B.pre
  have hown : s.vm.findClass RXM = some m.cls := findClass_of_methodNamed B.named
  have hlocks := B.notSynchronized
  subst hsz
  have hD := hD0.self (sz := s.heap.size)
  generalize hAe : va_A (wdM cI h0 a0 a1 a2 a9 g3 g4 g5 g6 g7 g8 g10 g11 g12 g13 g14 g15 g16 g17 g18 r0 r1 r2 r9) s.heap.size = A at hD hT ⊢
  have hA : ∀ q : Nat, s.heap.size ≤ q → A q := fun q h => by rw [← hAe]; exact Or.inr h
  have hS : va_S A s.heap s.heap [] := va_S.rf
  have hl := lv_entry ([.ref h0, .int k1]) (n := 2) (Nat.le_of_ble_eq_true rfl)
  rw [lg_entry_eq]
  generalize (lg_sl ([.ref h0, .int k1]) ++ List.replicate (2 - (lg_sl ([.ref h0, .int k1])).length) Slot.unset).toArray = ls at hl ⊢
  have hl : lv_has ls 2 [(0, .ref h0), (1, .int k1)] := hl
  generalize hX : sM_faulty g3 g4 g5 g6 g7 g8 g10 g11 g12 g13 g14 g15 g16 g17 g18 r0 r1 r2 r9 k1 = X
  refine bw_Q (fun Q hQ => ?_)
  have hinU : ∀ w ∈ wsXM0, w ∈ wsXM_faulty := fun w h => List.mem_cons_of_mem _ (List.mem_append_right _ h)
  have htM := fun w h => hts w (List.mem_cons_of_mem _ (List.mem_append_left _ h))
  have J28 : ∀  (H : Heap) (locs : List Loc) (ls : Array Slot), lv_has ls 2 [(0, .ref h0)] → va_P D vwC2 (wdM cI h0 a0 a1 a2 a9 g3 g4 g5 g6 g7 g8 g10 g11 g12 g13 g14 g15 g16 g17 g18 r0 r1 r2 r9) H → va_D A (wdM cI h0 a0 a1 a2 a9 g3 g4 g5 g6 g7 g8 g10 g11 g12 g13 g14 g15 g16 g17 g18 r0 r1 r2 r9) → va_S A s.heap H locs → bM_faulty_28 g3 g4 g5 g6 g7 g8 g10 g11 g12 g13 g14 g15 g16 g17 g18 r0 r1 r2 r9 = X → W p l e (headSpec wsXM_faulty rmM_faulty).room s m ([.ref h0, .int k1] : List Value).toArray below meth c H locs 0 0 Q (F0 m 28 ls []) := by
    intro  H locs ls hl hP hD hS hX
    unfold bM_faulty_28 at hX
    refine lv_iconst (v := 0) hx hb dXM_faulty_28 (by decide +kernel) ?_
    subst hQ
    exact W.zret (ty := .boolean) (v := 0) hx hb hr (by decide +kernel) (fun t ht hW => ⟨⟨0, (g3, g4, g5, g6, g7, g8, g10, g11, g12, g13, g14, g15, g16, g17, g18, r0, r1, r2, r9), rfl, ⟨hX, rfl⟩, by rw [ht]; exact hP, va_K.moved hW.alike hK, hD⟩, hS.F ht⟩) hS.2.2 dXM_faulty_29
  unfold sM_faulty at hX
  unfold bM_faulty_0 at hX
  refine lv_iload_n hx hb dXM_faulty_0 rfl (lv_at hl 1 rfl) ?_
  refine lv_if_lt (tgt := 28) hx hb dXM_faulty_1 (by decide) (fun hc1 => ?_) (fun hc1 => ?_)
  · rw [if_pos hc1] at hX
    exact J28  _ _ ls (lv_sub hl [0] rfl) hP hD hS hX
  · rw [if_neg hc1] at hX
    unfold bM_faulty_4 at hX
    refine lv_iload_n hx hb dXM_faulty_4 rfl (lv_at hl 1 rfl) ?_
    refine lv_iconst (v := 5) hx hb dXM_faulty_5 (by decide +kernel) ?_
    refine lv_icmp_gt (tgt := 28) hx hb dXM_faulty_6 (by decide) (fun hc6 => ?_) (fun hc6 => ?_)
    · rw [if_pos hc6] at hX
      exact J28  _ _ ls (lv_sub hl [0] rfl) hP hD hS hX
    · rw [if_neg hc6] at hX
      unfold bM_faulty_9 at hX
      refine lv_aload_n hx hb dXM_faulty_9 rfl (lv_at hl 0 rfl) ?_
      refine va_get (D := D) (ci := 1) (v := .int g8) (C := RXM) (T := TXM) (N := 19) hx hb hts hinU hown hK hP 0 rfl rfl 8 (by decide) (htM _ wM_13) (fun _ h9 => h9) rfl dXM_faulty_10 ?_
      refine lv_aload_n hx hb dXM_faulty_13 rfl (lv_at hl 0 rfl) ?_
      refine va_get (D := D) (ci := 1) (v := .ref a9) (C := RXM) (T := TXM) (N := 19) hx hb hts hinU hown hK hP 0 rfl rfl 9 (by decide) (htM _ wM_14) (fun _ h9 => h9) rfl dXM_faulty_14 ?_
      refine lv_iload_n hx hb dXM_faulty_17 rfl (lv_at hl 1 rfl) ?_
      refine va_iald hx hb hK hP 4 0 rfl rfl (in5g hc1 hc6) dXM_faulty_18 ?_
      refine lv_isub hx hb dXM_faulty_19 ?_
      refine lv_iconst (v := 3) hx hb dXM_faulty_20 (by decide +kernel) ?_
      refine lv_icmp_lt (tgt := 28) hx hb dXM_faulty_21 (by decide) (fun hc21 => ?_) (fun hc21 => ?_)
      · rw [if_pos hc21] at hX
        exact J28  _ _ ls (lv_sub hl [0] rfl) hP hD hS hX
      · rw [if_neg hc21] at hX
        unfold bM_faulty_24 at hX
        refine lv_iconst (v := 1) hx hb dXM_faulty_24 (by decide +kernel) ?_
        refine lv_goto (tgt := 29) hx hb dXM_faulty_25 (by decide) ?_
        subst hQ
        exact W.zret (ty := .boolean) (v := 1) hx hb hr (by decide +kernel) (fun t ht hW => ⟨⟨1, (g3, g4, g5, g6, g7, g8, g10, g11, g12, g13, g14, g15, g16, g17, g18, r0, r1, r2, r9), rfl, ⟨hX, rfl⟩, by rw [ht]; exact hP, va_K.moved hW.alike hK, hD⟩, hS.F ht⟩) hS.2.2 dXM_faulty_29
abbrev rmM_enter : Room := { frames := 0, cells := 0, slots := 0, locals := 0 }
set_option maxHeartbeats 4000000 in
set_option maxRecDepth 100000 in
theorem ctM_enter (l : Launch) (D : va_G) (cI : ClassId) (h0 a0 a1 a2 a9 sz : Nat) (g3 g4 g5 g6 g7 g8 g10 g11 g12 g13 g14 g15 g16 g17 g18 : Int32) (r0 r1 r2 r9 : Nat → Int32) (k1 : Int32)  : Met l yXM_enter wsXM_enter rmM_enter (va_Pc [.ref h0, .int k1] (bw_pr D vwC2 [(cI, .int)] (wdM cI h0 a0 a1 a2 a9 g3 g4 g5 g6 g7 g8 g10 g11 g12 g13 g14 g15 g16 g17 g18 r0 r1 r2 r9) sz (fun _ => True))) (va_Qv (fun u => u = sM_enter g3 g4 g5 g6 g7 g8 g10 g11 g12 g13 g14 g15 g16 g17 g18 r0 r1 r2 r9 k1) (bw_at D vwC2 [(cI, .int)] (wfM cI h0 a0 a1 a2 a9) (va_A (wdM cI h0 a0 a1 a2 a9 g3 g4 g5 g6 g7 g8 g10 g11 g12 g13 g14 g15 g16 g17 g18 r0 r1 r2 r9) sz)) (va_A (wdM cI h0 a0 a1 a2 a9 g3 g4 g5 g6 g7 g8 g10 g11 g12 g13 g14 g15 g16 g17 g18 r0 r1 r2 r9) sz)) 0 0 (va_A (wdM cI h0 a0 a1 a2 a9 g3 g4 g5 g6 g7 g8 g10 g11 g12 g13 g14 g15 g16 g17 g18 r0 r1 r2 r9) sz) := by
  refine Met.ofW (cc := cXM_enter) (maxL := 2) (ret := none) (by decide) rfl ?_
  intro p e s m args below meth c s₁ B hml hv
  obtain ⟨rfl, hsz, hP, hK, hD0, hT⟩ := hv
  have hx := B.exec
  have hb := B.bytes
  have hr := B.returns
  have hts := atoms_spec (ws := wsXM_enter) B.pre
  have hown : s.vm.findClass RXM = some m.cls := findClass_of_methodNamed B.named
  have hlocks := B.notSynchronized
  subst hsz
  have hD := hD0.self (sz := s.heap.size)
  generalize hAe : va_A (wdM cI h0 a0 a1 a2 a9 g3 g4 g5 g6 g7 g8 g10 g11 g12 g13 g14 g15 g16 g17 g18 r0 r1 r2 r9) s.heap.size = A at hD hT ⊢
  have hA : ∀ q : Nat, s.heap.size ≤ q → A q := fun q h => by rw [← hAe]; exact Or.inr h
  have hS : va_S A s.heap s.heap [] := va_S.rf
  have hl := lv_entry ([.ref h0, .int k1]) (n := 2) (Nat.le_of_ble_eq_true rfl)
  rw [lg_entry_eq]
  generalize (lg_sl ([.ref h0, .int k1]) ++ List.replicate (2 - (lg_sl ([.ref h0, .int k1])).length) Slot.unset).toArray = ls at hl ⊢
  have hl : lv_has ls 2 [(0, .ref h0), (1, .int k1)] := hl
  generalize hX : sM_enter g3 g4 g5 g6 g7 g8 g10 g11 g12 g13 g14 g15 g16 g17 g18 r0 r1 r2 r9 k1 = X
  refine bw_Q (fun Q hQ => ?_)
  have hinU : ∀ w ∈ wsXM0, w ∈ wsXM_enter := fun w h => List.mem_cons_of_mem _ (List.mem_append_right _ h)
  have htM := fun w h => hts w (List.mem_cons_of_mem _ (List.mem_append_left _ h))
  unfold sM_enter at hX
  unfold bM_enter_0 at hX
  refine lv_aload_n hx hb dXM_enter_0 rfl (lv_at hl 0 rfl) ?_
  refine lv_iload_n hx hb dXM_enter_1 rfl (lv_at hl 1 rfl) ?_
  refine va_put (D := D) (ci := 1) (v := .int k1) (ty := .int) (C := RXM) (T := TXM) (N := 19) hx hb hts hinU tyXM tyXM_ok nmXM hown hK hP hD hS 0 rfl rfl 3 (by decide) (htM _ wM_8) (fun _ h9 => h9) rfl (by decide +kernel) rfl rfl (Nat.le_of_ble_eq_true rfl) dXM_enter_2 (fun H locs hP hD hS => ?_)
  have hP : va_P D vwC2 (wdM cI h0 a0 a1 a2 a9 k1 g4 g5 g6 g7 g8 g10 g11 g12 g13 g14 g15 g16 g17 g18 r0 r1 r2 r9) H := hP
  have hD : va_D A (wdM cI h0 a0 a1 a2 a9 k1 g4 g5 g6 g7 g8 g10 g11 g12 g13 g14 g15 g16 g17 g18 r0 r1 r2 r9) := hD
  refine lv_aload_n hx hb dXM_enter_5 rfl (lv_at hl 0 rfl) ?_
  refine lv_iconst (v := 0) hx hb dXM_enter_6 (by decide +kernel) ?_
  refine va_put (D := D) (ci := 1) (v := .int 0) (ty := .int) (C := RXM) (T := TXM) (N := 19) hx hb hts hinU tyXM tyXM_ok nmXM hown hK hP hD hS 0 rfl rfl 18 (by decide) (htM _ wM_23) (fun _ h9 => h9) rfl (by decide +kernel) rfl rfl (Nat.le_of_ble_eq_true rfl) dXM_enter_7 (fun H locs hP hD hS => ?_)
  have hP : va_P D vwC2 (wdM cI h0 a0 a1 a2 a9 k1 g4 g5 g6 g7 g8 g10 g11 g12 g13 g14 g15 g16 g17 0 r0 r1 r2 r9) H := hP
  have hD : va_D A (wdM cI h0 a0 a1 a2 a9 k1 g4 g5 g6 g7 g8 g10 g11 g12 g13 g14 g15 g16 g17 0 r0 r1 r2 r9) := hD
  refine lv_iload_n hx hb dXM_enter_10 rfl (lv_at hl 1 rfl) ?_
  refine lv_iconst (v := 3) hx hb dXM_enter_11 (by decide +kernel) ?_
  refine lv_icmp_ne (tgt := 30) hx hb dXM_enter_12 (by decide) (fun hc12 => ?_) (fun hc12 => ?_)
  · rw [if_neg hc12] at hX
    subst hQ
    exact W.vret hx hb hr (fun t ht hW => ⟨⟨(k1, g4, g5, g6, g7, g8, g10, g11, g12, g13, g14, g15, g16, g17, 0, r0, r1, r2, r9), rfl, hX, by rw [ht]; exact hP, va_K.moved hW.alike hK, hD⟩, hS.F ht⟩) hS.2.2 dXM_enter_30
  · rw [if_pos hc12] at hX
    unfold bM_enter_15 at hX
    refine lv_aload_n hx hb dXM_enter_15 rfl (lv_at hl 0 rfl) ?_
    refine lv_iconst (v := 0) hx hb dXM_enter_16 (by decide +kernel) ?_
    refine va_put (D := D) (ci := 1) (v := .int 0) (ty := .int) (C := RXM) (T := TXM) (N := 19) hx hb hts hinU tyXM tyXM_ok nmXM hown hK hP hD hS 0 rfl rfl 14 (by decide) (htM _ wM_19) (fun _ h9 => h9) rfl (by decide +kernel) rfl rfl (Nat.le_of_ble_eq_true rfl) dXM_enter_17 (fun H locs hP hD hS => ?_)
    have hP : va_P D vwC2 (wdM cI h0 a0 a1 a2 a9 k1 g4 g5 g6 g7 g8 g10 g11 g12 g13 0 g15 g16 g17 0 r0 r1 r2 r9) H := hP
    have hD : va_D A (wdM cI h0 a0 a1 a2 a9 k1 g4 g5 g6 g7 g8 g10 g11 g12 g13 0 g15 g16 g17 0 r0 r1 r2 r9) := hD
    refine lv_aload_n hx hb dXM_enter_20 rfl (lv_at hl 0 rfl) ?_
    refine lv_iconst (v := 0) hx hb dXM_enter_21 (by decide +kernel) ?_
    refine va_put (D := D) (ci := 1) (v := .int 0) (ty := .int) (C := RXM) (T := TXM) (N := 19) hx hb hts hinU tyXM tyXM_ok nmXM hown hK hP hD hS 0 rfl rfl 15 (by decide) (htM _ wM_20) (fun _ h9 => h9) rfl (by decide +kernel) rfl rfl (Nat.le_of_ble_eq_true rfl) dXM_enter_22 (fun H locs hP hD hS => ?_)
    have hP : va_P D vwC2 (wdM cI h0 a0 a1 a2 a9 k1 g4 g5 g6 g7 g8 g10 g11 g12 g13 0 0 g16 g17 0 r0 r1 r2 r9) H := hP
    have hD : va_D A (wdM cI h0 a0 a1 a2 a9 k1 g4 g5 g6 g7 g8 g10 g11 g12 g13 0 0 g16 g17 0 r0 r1 r2 r9) := hD
    refine lv_aload_n hx hb dXM_enter_25 rfl (lv_at hl 0 rfl) ?_
    refine lv_iconst (v := 0) hx hb dXM_enter_26 (by decide +kernel) ?_
    refine va_put (D := D) (ci := 1) (v := .int 0) (ty := .int) (C := RXM) (T := TXM) (N := 19) hx hb hts hinU tyXM tyXM_ok nmXM hown hK hP hD hS 0 rfl rfl 16 (by decide) (htM _ wM_21) (fun _ h9 => h9) rfl (by decide +kernel) rfl rfl (Nat.le_of_ble_eq_true rfl) dXM_enter_27 (fun H locs hP hD hS => ?_)
    have hP : va_P D vwC2 (wdM cI h0 a0 a1 a2 a9 k1 g4 g5 g6 g7 g8 g10 g11 g12 g13 0 0 0 g17 0 r0 r1 r2 r9) H := hP
    have hD : va_D A (wdM cI h0 a0 a1 a2 a9 k1 g4 g5 g6 g7 g8 g10 g11 g12 g13 0 0 0 g17 0 r0 r1 r2 r9) := hD
    subst hQ
    exact W.vret hx hb hr (fun t ht hW => ⟨⟨(k1, g4, g5, g6, g7, g8, g10, g11, g12, g13, 0, 0, 0, g17, 0, r0, r1, r2, r9), rfl, hX, by rw [ht]; exact hP, va_K.moved hW.alike hK, hD⟩, hS.F ht⟩) hS.2.2 dXM_enter_30
abbrev rmM_acknowledge : Room := { frames := 0, cells := 0, slots := 0, locals := 0 }
set_option maxHeartbeats 4000000 in
set_option maxRecDepth 100000 in
theorem ctM_acknowledge (l : Launch) (D : va_G) (cI : ClassId) (h0 a0 a1 a2 a9 sz : Nat) (g3 g4 g5 g6 g7 g8 g10 g11 g12 g13 g14 g15 g16 g17 g18 : Int32) (r0 r1 r2 r9 : Nat → Int32)   : Met l yXM_acknowledge wsXM_acknowledge rmM_acknowledge (va_Pc [.ref h0] (bw_pr D vwC2 [(cI, .int)] (wdM cI h0 a0 a1 a2 a9 g3 g4 g5 g6 g7 g8 g10 g11 g12 g13 g14 g15 g16 g17 g18 r0 r1 r2 r9) sz (fun _ => True))) (va_Qi (fun r u => (r, u) = sM_acknowledge g3 g4 g5 g6 g7 g8 g10 g11 g12 g13 g14 g15 g16 g17 g18 r0 r1 r2 r9) (bw_at D vwC2 [(cI, .int)] (wfM cI h0 a0 a1 a2 a9) (va_A (wdM cI h0 a0 a1 a2 a9 g3 g4 g5 g6 g7 g8 g10 g11 g12 g13 g14 g15 g16 g17 g18 r0 r1 r2 r9) sz)) (va_A (wdM cI h0 a0 a1 a2 a9 g3 g4 g5 g6 g7 g8 g10 g11 g12 g13 g14 g15 g16 g17 g18 r0 r1 r2 r9) sz)) 0 0 (va_A (wdM cI h0 a0 a1 a2 a9 g3 g4 g5 g6 g7 g8 g10 g11 g12 g13 g14 g15 g16 g17 g18 r0 r1 r2 r9) sz) := by
  refine Met.ofW (cc := cXM_acknowledge) (maxL := 1) (ret := (some .int)) (by decide) rfl ?_
  intro p e s m args below meth c s₁ B hml hv
  obtain ⟨rfl, hsz, hP, hK, hD0, hT⟩ := hv
  have hx := B.exec
  have hb := B.bytes
  have hr := B.returns
  have hts := atoms_spec (ws := wsXM_acknowledge) B.pre
  have hown : s.vm.findClass RXM = some m.cls := findClass_of_methodNamed B.named
  have hlocks := B.notSynchronized
  subst hsz
  have hD := hD0.self (sz := s.heap.size)
  generalize hAe : va_A (wdM cI h0 a0 a1 a2 a9 g3 g4 g5 g6 g7 g8 g10 g11 g12 g13 g14 g15 g16 g17 g18 r0 r1 r2 r9) s.heap.size = A at hD hT ⊢
  have hA : ∀ q : Nat, s.heap.size ≤ q → A q := fun q h => by rw [← hAe]; exact Or.inr h
  have hS : va_S A s.heap s.heap [] := va_S.rf
  have hl := lv_entry ([.ref h0]) (n := 1) (Nat.le_of_ble_eq_true rfl)
  rw [lg_entry_eq]
  generalize (lg_sl ([.ref h0]) ++ List.replicate (1 - (lg_sl ([.ref h0])).length) Slot.unset).toArray = ls at hl ⊢
  have hl : lv_has ls 1 [(0, .ref h0)] := hl
  generalize hX : sM_acknowledge g3 g4 g5 g6 g7 g8 g10 g11 g12 g13 g14 g15 g16 g17 g18 r0 r1 r2 r9 = X
  refine bw_Q (fun Q hQ => ?_)
  have hinU : ∀ w ∈ wsXM0, w ∈ wsXM_acknowledge := fun w h => List.mem_cons_of_mem _ (List.mem_append_right _ h)
  have htM := fun w h => hts w (List.mem_cons_of_mem _ (List.mem_append_left _ h))
  unfold sM_acknowledge at hX
  unfold bM_acknowledge_0 at hX
  refine lv_aload_n hx hb dXM_acknowledge_0 rfl (lv_at hl 0 rfl) ?_
  refine lv_aload_n hx hb dXM_acknowledge_1 rfl (lv_at hl 0 rfl) ?_
  refine va_get (D := D) (ci := 1) (v := .int g4) (C := RXM) (T := TXM) (N := 19) hx hb hts hinU hown hK hP 0 rfl rfl 4 (by decide) (htM _ wM_9) (fun _ h9 => h9) rfl dXM_acknowledge_2 ?_
  refine lv_aload_n hx hb dXM_acknowledge_5 rfl (lv_at hl 0 rfl) ?_
  refine va_get (D := D) (ci := 1) (v := .int g5) (C := RXM) (T := TXM) (N := 19) hx hb hts hinU hown hK hP 0 rfl rfl 5 (by decide) (htM _ wM_10) (fun _ h9 => h9) rfl dXM_acknowledge_6 ?_
  refine lv_iand hx hb dXM_acknowledge_9 ?_
  refine va_put (D := D) (ci := 1) (v := .int (g4 &&& g5)) (ty := .int) (C := RXM) (T := TXM) (N := 19) hx hb hts hinU tyXM tyXM_ok nmXM hown hK hP hD hS 0 rfl rfl 4 (by decide) (htM _ wM_9) (fun _ h9 => h9) rfl (by decide +kernel) rfl rfl (Nat.le_of_ble_eq_true rfl) dXM_acknowledge_10 (fun H locs hP hD hS => ?_)
  have hP : va_P D vwC2 (wdM cI h0 a0 a1 a2 a9 g3 (g4 &&& g5) g5 g6 g7 g8 g10 g11 g12 g13 g14 g15 g16 g17 g18 r0 r1 r2 r9) H := hP
  have hD : va_D A (wdM cI h0 a0 a1 a2 a9 g3 (g4 &&& g5) g5 g6 g7 g8 g10 g11 g12 g13 g14 g15 g16 g17 g18 r0 r1 r2 r9) := hD
  refine lv_aload_n hx hb dXM_acknowledge_13 rfl (lv_at hl 0 rfl) ?_
  refine va_get (D := D) (ci := 1) (v := .int (g4 &&& g5)) (C := RXM) (T := TXM) (N := 19) hx hb hts hinU hown hK hP 0 rfl rfl 4 (by decide) (htM _ wM_9) (fun _ h9 => h9) rfl dXM_acknowledge_14 ?_
  subst hQ
  exact W.iret (v := g4 &&& g5) hx hb hr (fun t ht hW => ⟨⟨g4 &&& g5, (g3, g4 &&& g5, g5, g6, g7, g8, g10, g11, g12, g13, g14, g15, g16, g17, g18, r0, r1, r2, r9), rfl, hX, by rw [ht]; exact hP, va_K.moved hW.alike hK, hD⟩, hS.F ht⟩) hS.2.2 dXM_acknowledge_17
abbrev rmM_substitute : Room := { frames := 0, cells := 0, slots := 0, locals := 0 }
set_option maxHeartbeats 4000000 in
set_option maxRecDepth 100000 in
theorem ctM_substitute (l : Launch) (D : va_G) (cI : ClassId) (h0 a0 a1 a2 a9 sz : Nat) (g3 g4 g5 g6 g7 g8 g10 g11 g12 g13 g14 g15 g16 g17 g18 : Int32) (r0 r1 r2 r9 : Nat → Int32) (k1 : Int32)  : Met l yXM_substitute wsXM_substitute rmM_substitute (va_Pc [.ref h0, .int k1] (bw_pr D vwC2 [(cI, .int)] (wdM cI h0 a0 a1 a2 a9 g3 g4 g5 g6 g7 g8 g10 g11 g12 g13 g14 g15 g16 g17 g18 r0 r1 r2 r9) sz (fun _ => True))) (va_Qi (fun r u => (r, u) = sM_substitute g3 g4 g5 g6 g7 g8 g10 g11 g12 g13 g14 g15 g16 g17 g18 r0 r1 r2 r9 k1) (bw_at D vwC2 [(cI, .int)] (wfM cI h0 a0 a1 a2 a9) (va_A (wdM cI h0 a0 a1 a2 a9 g3 g4 g5 g6 g7 g8 g10 g11 g12 g13 g14 g15 g16 g17 g18 r0 r1 r2 r9) sz)) (va_A (wdM cI h0 a0 a1 a2 a9 g3 g4 g5 g6 g7 g8 g10 g11 g12 g13 g14 g15 g16 g17 g18 r0 r1 r2 r9) sz)) 0 0 (va_A (wdM cI h0 a0 a1 a2 a9 g3 g4 g5 g6 g7 g8 g10 g11 g12 g13 g14 g15 g16 g17 g18 r0 r1 r2 r9) sz) := by
  refine Met.ofW (cc := cXM_substitute) (maxL := 2) (ret := (some .boolean)) (by decide) rfl ?_
  intro p e s m args below meth c s₁ B hml hv
  obtain ⟨rfl, hsz, hP, hK, hD0, hT⟩ := hv
  have hx := B.exec
  have hb := B.bytes
  have hr := B.returns
  have hts := atoms_spec (ws := wsXM_substitute) B.pre
  have hown : s.vm.findClass RXM = some m.cls := findClass_of_methodNamed B.named
  have hlocks := B.notSynchronized
  subst hsz
  have hD := hD0.self (sz := s.heap.size)
  generalize hAe : va_A (wdM cI h0 a0 a1 a2 a9 g3 g4 g5 g6 g7 g8 g10 g11 g12 g13 g14 g15 g16 g17 g18 r0 r1 r2 r9) s.heap.size = A at hD hT ⊢
  have hA : ∀ q : Nat, s.heap.size ≤ q → A q := fun q h => by rw [← hAe]; exact Or.inr h
  have hS : va_S A s.heap s.heap [] := va_S.rf
  have hl := lv_entry ([.ref h0, .int k1]) (n := 2) (Nat.le_of_ble_eq_true rfl)
  rw [lg_entry_eq]
  generalize (lg_sl ([.ref h0, .int k1]) ++ List.replicate (2 - (lg_sl ([.ref h0, .int k1])).length) Slot.unset).toArray = ls at hl ⊢
  have hl : lv_has ls 2 [(0, .ref h0), (1, .int k1)] := hl
  generalize hX : sM_substitute g3 g4 g5 g6 g7 g8 g10 g11 g12 g13 g14 g15 g16 g17 g18 r0 r1 r2 r9 k1 = X
  refine bw_Q (fun Q hQ => ?_)
  have hinU : ∀ w ∈ wsXM0, w ∈ wsXM_substitute := fun w h => List.mem_cons_of_mem _ (List.mem_append_right _ h)
  have htM := fun w h => hts w (List.mem_cons_of_mem _ (List.mem_append_left _ h))
  have J11 : ∀ (g3 g4 g5 g6 g7 g8 g10 g11 g12 g13 g14 g15 g16 g17 g18 : Int32) (r0 r1 r2 r9 : Nat → Int32) (H : Heap) (locs : List Loc) (ls : Array Slot), lv_has ls 2 [(0, .ref h0)] → va_P D vwC2 (wdM cI h0 a0 a1 a2 a9 g3 g4 g5 g6 g7 g8 g10 g11 g12 g13 g14 g15 g16 g17 g18 r0 r1 r2 r9) H → va_D A (wdM cI h0 a0 a1 a2 a9 g3 g4 g5 g6 g7 g8 g10 g11 g12 g13 g14 g15 g16 g17 g18 r0 r1 r2 r9) → va_S A s.heap H locs → bM_substitute_11 g3 g4 g5 g6 g7 g8 g10 g11 g12 g13 g14 g15 g16 g17 g18 r0 r1 r2 r9 = X → W p l e (headSpec wsXM_substitute rmM_substitute).room s m ([.ref h0, .int k1] : List Value).toArray below meth c H locs 0 0 Q (F0 m 11 ls []) := by
    intro g3 g4 g5 g6 g7 g8 g10 g11 g12 g13 g14 g15 g16 g17 g18 r0 r1 r2 r9 H locs ls hl hP hD hS hX
    unfold bM_substitute_11 at hX
    refine lv_iconst (v := 0) hx hb dXM_substitute_11 (by decide +kernel) ?_
    subst hQ
    exact W.zret (ty := .boolean) (v := 0) hx hb hr (by decide +kernel) (fun t ht hW => ⟨⟨0, (g3, g4, g5, g6, g7, g8, g10, g11, g12, g13, g14, g15, g16, g17, g18, r0, r1, r2, r9), rfl, hX, by rw [ht]; exact hP, va_K.moved hW.alike hK, hD⟩, hS.F ht⟩) hS.2.2 dXM_substitute_12
  unfold sM_substitute at hX
  unfold bM_substitute_0 at hX
  refine lv_iload_n hx hb dXM_substitute_0 rfl (lv_at hl 1 rfl) ?_
  refine lv_iconst (v := (-1)) hx hb dXM_substitute_1 (by decide +kernel) ?_
  refine lv_icmp_lt (tgt := 11) hx hb dXM_substitute_2 (by decide) (fun hc2 => ?_) (fun hc2 => ?_)
  · rw [if_pos hc2] at hX
    exact J11 g3 g4 g5 g6 g7 g8 g10 g11 g12 g13 g14 g15 g16 g17 g18 r0 r1 r2 r9 _ _ ls (lv_sub hl [0] rfl) hP hD hS hX
  · rw [if_neg hc2] at hX
    unfold bM_substitute_5 at hX
    refine lv_iload_n hx hb dXM_substitute_5 rfl (lv_at hl 1 rfl) ?_
    refine lv_bipush (v := 15) hx hb dXM_substitute_6 (by decide +kernel) ?_
    refine lv_icmp_le (tgt := 13) hx hb dXM_substitute_8 (by decide) (fun hc8 => ?_) (fun hc8 => ?_)
    · rw [if_pos hc8] at hX
      unfold bM_substitute_13 at hX
      refine lv_aload_n hx hb dXM_substitute_13 rfl (lv_at hl 0 rfl) ?_
      refine lv_iload_n hx hb dXM_substitute_14 rfl (lv_at hl 1 rfl) ?_
      refine va_put (D := D) (ci := 1) (v := .int k1) (ty := .int) (C := RXM) (T := TXM) (N := 19) hx hb hts hinU tyXM tyXM_ok nmXM hown hK hP hD hS 0 rfl rfl 7 (by decide) (htM _ wM_12) (fun _ h9 => h9) rfl (by decide +kernel) rfl rfl (Nat.le_of_ble_eq_true rfl) dXM_substitute_15 (fun H locs hP hD hS => ?_)
      have hP : va_P D vwC2 (wdM cI h0 a0 a1 a2 a9 g3 g4 g5 g6 k1 g8 g10 g11 g12 g13 g14 g15 g16 g17 g18 r0 r1 r2 r9) H := hP
      have hD : va_D A (wdM cI h0 a0 a1 a2 a9 g3 g4 g5 g6 k1 g8 g10 g11 g12 g13 g14 g15 g16 g17 g18 r0 r1 r2 r9) := hD
      refine lv_iconst (v := 1) hx hb dXM_substitute_18 (by decide +kernel) ?_
      subst hQ
      exact W.zret (ty := .boolean) (v := 1) hx hb hr (by decide +kernel) (fun t ht hW => ⟨⟨1, (g3, g4, g5, g6, k1, g8, g10, g11, g12, g13, g14, g15, g16, g17, g18, r0, r1, r2, r9), rfl, hX, by rw [ht]; exact hP, va_K.moved hW.alike hK, hD⟩, hS.F ht⟩) hS.2.2 dXM_substitute_19
    · rw [if_neg hc8] at hX
      exact J11 g3 g4 g5 g6 g7 g8 g10 g11 g12 g13 g14 g15 g16 g17 g18 r0 r1 r2 r9 _ _ ls (lv_sub hl [0] rfl) hP hD hS hX
abbrev rmM_phase : Room := { frames := 0, cells := 0, slots := 0, locals := 0 }
set_option maxHeartbeats 4000000 in
set_option maxRecDepth 100000 in
theorem ctM_phase (l : Launch) (D : va_G) (cI : ClassId) (h0 a0 a1 a2 a9 sz : Nat) (g3 g4 g5 g6 g7 g8 g10 g11 g12 g13 g14 g15 g16 g17 g18 : Int32) (r0 r1 r2 r9 : Nat → Int32)   : Met l yXM_phase wsXM_phase rmM_phase (va_Pc [.ref h0] (bw_pr D vwC2 [(cI, .int)] (wdM cI h0 a0 a1 a2 a9 g3 g4 g5 g6 g7 g8 g10 g11 g12 g13 g14 g15 g16 g17 g18 r0 r1 r2 r9) sz (fun _ => True))) (va_Qi (fun r u => r = sM_phase g3 g4 g5 g6 g7 g8 g10 g11 g12 g13 g14 g15 g16 g17 g18 r0 r1 r2 r9 ∧ u = (g3, g4, g5, g6, g7, g8, g10, g11, g12, g13, g14, g15, g16, g17, g18, r0, r1, r2, r9)) (bw_at D vwC2 [(cI, .int)] (wfM cI h0 a0 a1 a2 a9) (va_A (wdM cI h0 a0 a1 a2 a9 g3 g4 g5 g6 g7 g8 g10 g11 g12 g13 g14 g15 g16 g17 g18 r0 r1 r2 r9) sz)) (va_A (wdM cI h0 a0 a1 a2 a9 g3 g4 g5 g6 g7 g8 g10 g11 g12 g13 g14 g15 g16 g17 g18 r0 r1 r2 r9) sz)) 0 0 (va_A (wdM cI h0 a0 a1 a2 a9 g3 g4 g5 g6 g7 g8 g10 g11 g12 g13 g14 g15 g16 g17 g18 r0 r1 r2 r9) sz) := by
  refine Met.ofW (cc := cXM_phase) (maxL := 1) (ret := (some .int)) (by decide) rfl ?_
  intro p e s m args below meth c s₁ B hml hv
  obtain ⟨rfl, hsz, hP, hK, hD0, hT⟩ := hv
  have hx := B.exec
  have hb := B.bytes
  have hr := B.returns
  have hts := atoms_spec (ws := wsXM_phase) B.pre
  have hown : s.vm.findClass RXM = some m.cls := findClass_of_methodNamed B.named
  have hlocks := B.notSynchronized
  subst hsz
  have hD := hD0.self (sz := s.heap.size)
  generalize hAe : va_A (wdM cI h0 a0 a1 a2 a9 g3 g4 g5 g6 g7 g8 g10 g11 g12 g13 g14 g15 g16 g17 g18 r0 r1 r2 r9) s.heap.size = A at hD hT ⊢
  have hA : ∀ q : Nat, s.heap.size ≤ q → A q := fun q h => by rw [← hAe]; exact Or.inr h
  have hS : va_S A s.heap s.heap [] := va_S.rf
  have hl := lv_entry ([.ref h0]) (n := 1) (Nat.le_of_ble_eq_true rfl)
  rw [lg_entry_eq]
  generalize (lg_sl ([.ref h0]) ++ List.replicate (1 - (lg_sl ([.ref h0])).length) Slot.unset).toArray = ls at hl ⊢
  have hl : lv_has ls 1 [(0, .ref h0)] := hl
  generalize hX : sM_phase g3 g4 g5 g6 g7 g8 g10 g11 g12 g13 g14 g15 g16 g17 g18 r0 r1 r2 r9 = X
  refine bw_Q (fun Q hQ => ?_)
  have hinU : ∀ w ∈ wsXM0, w ∈ wsXM_phase := fun w h => List.mem_cons_of_mem _ (List.mem_append_right _ h)
  have htM := fun w h => hts w (List.mem_cons_of_mem _ (List.mem_append_left _ h))
  unfold sM_phase at hX
  unfold bM_phase_0 at hX
  refine lv_aload_n hx hb dXM_phase_0 rfl (lv_at hl 0 rfl) ?_
  refine va_get (D := D) (ci := 1) (v := .int g3) (C := RXM) (T := TXM) (N := 19) hx hb hts hinU hown hK hP 0 rfl rfl 3 (by decide) (htM _ wM_8) (fun _ h9 => h9) rfl dXM_phase_1 ?_
  subst hQ
  exact W.iret (v := g3) hx hb hr (fun t ht hW => ⟨⟨g3, (g3, g4, g5, g6, g7, g8, g10, g11, g12, g13, g14, g15, g16, g17, g18, r0, r1, r2, r9), rfl, ⟨hX, rfl⟩, by rw [ht]; exact hP, va_K.moved hW.alike hK, hD⟩, hS.F ht⟩) hS.2.2 dXM_phase_4
abbrev rmM_alarms : Room := { frames := 0, cells := 0, slots := 0, locals := 0 }
set_option maxHeartbeats 4000000 in
set_option maxRecDepth 100000 in
theorem ctM_alarms (l : Launch) (D : va_G) (cI : ClassId) (h0 a0 a1 a2 a9 sz : Nat) (g3 g4 g5 g6 g7 g8 g10 g11 g12 g13 g14 g15 g16 g17 g18 : Int32) (r0 r1 r2 r9 : Nat → Int32)   : Met l yXM_alarms wsXM_alarms rmM_alarms (va_Pc [.ref h0] (bw_pr D vwC2 [(cI, .int)] (wdM cI h0 a0 a1 a2 a9 g3 g4 g5 g6 g7 g8 g10 g11 g12 g13 g14 g15 g16 g17 g18 r0 r1 r2 r9) sz (fun _ => True))) (va_Qi (fun r u => r = sM_alarms g3 g4 g5 g6 g7 g8 g10 g11 g12 g13 g14 g15 g16 g17 g18 r0 r1 r2 r9 ∧ u = (g3, g4, g5, g6, g7, g8, g10, g11, g12, g13, g14, g15, g16, g17, g18, r0, r1, r2, r9)) (bw_at D vwC2 [(cI, .int)] (wfM cI h0 a0 a1 a2 a9) (va_A (wdM cI h0 a0 a1 a2 a9 g3 g4 g5 g6 g7 g8 g10 g11 g12 g13 g14 g15 g16 g17 g18 r0 r1 r2 r9) sz)) (va_A (wdM cI h0 a0 a1 a2 a9 g3 g4 g5 g6 g7 g8 g10 g11 g12 g13 g14 g15 g16 g17 g18 r0 r1 r2 r9) sz)) 0 0 (va_A (wdM cI h0 a0 a1 a2 a9 g3 g4 g5 g6 g7 g8 g10 g11 g12 g13 g14 g15 g16 g17 g18 r0 r1 r2 r9) sz) := by
  refine Met.ofW (cc := cXM_alarms) (maxL := 1) (ret := (some .int)) (by decide) rfl ?_
  intro p e s m args below meth c s₁ B hml hv
  obtain ⟨rfl, hsz, hP, hK, hD0, hT⟩ := hv
  have hx := B.exec
  have hb := B.bytes
  have hr := B.returns
  have hts := atoms_spec (ws := wsXM_alarms) B.pre
  have hown : s.vm.findClass RXM = some m.cls := findClass_of_methodNamed B.named
  have hlocks := B.notSynchronized
  subst hsz
  have hD := hD0.self (sz := s.heap.size)
  generalize hAe : va_A (wdM cI h0 a0 a1 a2 a9 g3 g4 g5 g6 g7 g8 g10 g11 g12 g13 g14 g15 g16 g17 g18 r0 r1 r2 r9) s.heap.size = A at hD hT ⊢
  have hA : ∀ q : Nat, s.heap.size ≤ q → A q := fun q h => by rw [← hAe]; exact Or.inr h
  have hS : va_S A s.heap s.heap [] := va_S.rf
  have hl := lv_entry ([.ref h0]) (n := 1) (Nat.le_of_ble_eq_true rfl)
  rw [lg_entry_eq]
  generalize (lg_sl ([.ref h0]) ++ List.replicate (1 - (lg_sl ([.ref h0])).length) Slot.unset).toArray = ls at hl ⊢
  have hl : lv_has ls 1 [(0, .ref h0)] := hl
  generalize hX : sM_alarms g3 g4 g5 g6 g7 g8 g10 g11 g12 g13 g14 g15 g16 g17 g18 r0 r1 r2 r9 = X
  refine bw_Q (fun Q hQ => ?_)
  have hinU : ∀ w ∈ wsXM0, w ∈ wsXM_alarms := fun w h => List.mem_cons_of_mem _ (List.mem_append_right _ h)
  have htM := fun w h => hts w (List.mem_cons_of_mem _ (List.mem_append_left _ h))
  unfold sM_alarms at hX
  unfold bM_alarms_0 at hX
  refine lv_aload_n hx hb dXM_alarms_0 rfl (lv_at hl 0 rfl) ?_
  refine va_get (D := D) (ci := 1) (v := .int g4) (C := RXM) (T := TXM) (N := 19) hx hb hts hinU hown hK hP 0 rfl rfl 4 (by decide) (htM _ wM_9) (fun _ h9 => h9) rfl dXM_alarms_1 ?_
  subst hQ
  exact W.iret (v := g4) hx hb hr (fun t ht hW => ⟨⟨g4, (g3, g4, g5, g6, g7, g8, g10, g11, g12, g13, g14, g15, g16, g17, g18, r0, r1, r2, r9), rfl, ⟨hX, rfl⟩, by rw [ht]; exact hP, va_K.moved hW.alike hK, hD⟩, hS.F ht⟩) hS.2.2 dXM_alarms_4
abbrev rmM_conditions : Room := { frames := 0, cells := 0, slots := 0, locals := 0 }
set_option maxHeartbeats 4000000 in
set_option maxRecDepth 100000 in
theorem ctM_conditions (l : Launch) (D : va_G) (cI : ClassId) (h0 a0 a1 a2 a9 sz : Nat) (g3 g4 g5 g6 g7 g8 g10 g11 g12 g13 g14 g15 g16 g17 g18 : Int32) (r0 r1 r2 r9 : Nat → Int32)   : Met l yXM_conditions wsXM_conditions rmM_conditions (va_Pc [.ref h0] (bw_pr D vwC2 [(cI, .int)] (wdM cI h0 a0 a1 a2 a9 g3 g4 g5 g6 g7 g8 g10 g11 g12 g13 g14 g15 g16 g17 g18 r0 r1 r2 r9) sz (fun _ => True))) (va_Qi (fun r u => r = sM_conditions g3 g4 g5 g6 g7 g8 g10 g11 g12 g13 g14 g15 g16 g17 g18 r0 r1 r2 r9 ∧ u = (g3, g4, g5, g6, g7, g8, g10, g11, g12, g13, g14, g15, g16, g17, g18, r0, r1, r2, r9)) (bw_at D vwC2 [(cI, .int)] (wfM cI h0 a0 a1 a2 a9) (va_A (wdM cI h0 a0 a1 a2 a9 g3 g4 g5 g6 g7 g8 g10 g11 g12 g13 g14 g15 g16 g17 g18 r0 r1 r2 r9) sz)) (va_A (wdM cI h0 a0 a1 a2 a9 g3 g4 g5 g6 g7 g8 g10 g11 g12 g13 g14 g15 g16 g17 g18 r0 r1 r2 r9) sz)) 0 0 (va_A (wdM cI h0 a0 a1 a2 a9 g3 g4 g5 g6 g7 g8 g10 g11 g12 g13 g14 g15 g16 g17 g18 r0 r1 r2 r9) sz) := by
  refine Met.ofW (cc := cXM_conditions) (maxL := 1) (ret := (some .int)) (by decide) rfl ?_
  intro p e s m args below meth c s₁ B hml hv
  obtain ⟨rfl, hsz, hP, hK, hD0, hT⟩ := hv
  have hx := B.exec
  have hb := B.bytes
  have hr := B.returns
  have hts := atoms_spec (ws := wsXM_conditions) B.pre
  have hown : s.vm.findClass RXM = some m.cls := findClass_of_methodNamed B.named
  have hlocks := B.notSynchronized
  subst hsz
  have hD := hD0.self (sz := s.heap.size)
  generalize hAe : va_A (wdM cI h0 a0 a1 a2 a9 g3 g4 g5 g6 g7 g8 g10 g11 g12 g13 g14 g15 g16 g17 g18 r0 r1 r2 r9) s.heap.size = A at hD hT ⊢
  have hA : ∀ q : Nat, s.heap.size ≤ q → A q := fun q h => by rw [← hAe]; exact Or.inr h
  have hS : va_S A s.heap s.heap [] := va_S.rf
  have hl := lv_entry ([.ref h0]) (n := 1) (Nat.le_of_ble_eq_true rfl)
  rw [lg_entry_eq]
  generalize (lg_sl ([.ref h0]) ++ List.replicate (1 - (lg_sl ([.ref h0])).length) Slot.unset).toArray = ls at hl ⊢
  have hl : lv_has ls 1 [(0, .ref h0)] := hl
  generalize hX : sM_conditions g3 g4 g5 g6 g7 g8 g10 g11 g12 g13 g14 g15 g16 g17 g18 r0 r1 r2 r9 = X
  refine bw_Q (fun Q hQ => ?_)
  have hinU : ∀ w ∈ wsXM0, w ∈ wsXM_conditions := fun w h => List.mem_cons_of_mem _ (List.mem_append_right _ h)
  have htM := fun w h => hts w (List.mem_cons_of_mem _ (List.mem_append_left _ h))
  unfold sM_conditions at hX
  unfold bM_conditions_0 at hX
  refine lv_aload_n hx hb dXM_conditions_0 rfl (lv_at hl 0 rfl) ?_
  refine va_get (D := D) (ci := 1) (v := .int g5) (C := RXM) (T := TXM) (N := 19) hx hb hts hinU hown hK hP 0 rfl rfl 5 (by decide) (htM _ wM_10) (fun _ h9 => h9) rfl dXM_conditions_1 ?_
  subst hQ
  exact W.iret (v := g5) hx hb hr (fun t ht hW => ⟨⟨g5, (g3, g4, g5, g6, g7, g8, g10, g11, g12, g13, g14, g15, g16, g17, g18, r0, r1, r2, r9), rfl, ⟨hX, rfl⟩, by rw [ht]; exact hP, va_K.moved hW.alike hK, hD⟩, hS.F ht⟩) hS.2.2 dXM_conditions_4
abbrev rmM_outputs : Room := { frames := 0, cells := 0, slots := 0, locals := 0 }
set_option maxHeartbeats 4000000 in
set_option maxRecDepth 100000 in
theorem ctM_outputs (l : Launch) (D : va_G) (cI : ClassId) (h0 a0 a1 a2 a9 sz : Nat) (g3 g4 g5 g6 g7 g8 g10 g11 g12 g13 g14 g15 g16 g17 g18 : Int32) (r0 r1 r2 r9 : Nat → Int32)   : Met l yXM_outputs wsXM_outputs rmM_outputs (va_Pc [.ref h0] (bw_pr D vwC2 [(cI, .int)] (wdM cI h0 a0 a1 a2 a9 g3 g4 g5 g6 g7 g8 g10 g11 g12 g13 g14 g15 g16 g17 g18 r0 r1 r2 r9) sz (fun _ => True))) (va_Qi (fun r u => r = sM_outputs g3 g4 g5 g6 g7 g8 g10 g11 g12 g13 g14 g15 g16 g17 g18 r0 r1 r2 r9 ∧ u = (g3, g4, g5, g6, g7, g8, g10, g11, g12, g13, g14, g15, g16, g17, g18, r0, r1, r2, r9)) (bw_at D vwC2 [(cI, .int)] (wfM cI h0 a0 a1 a2 a9) (va_A (wdM cI h0 a0 a1 a2 a9 g3 g4 g5 g6 g7 g8 g10 g11 g12 g13 g14 g15 g16 g17 g18 r0 r1 r2 r9) sz)) (va_A (wdM cI h0 a0 a1 a2 a9 g3 g4 g5 g6 g7 g8 g10 g11 g12 g13 g14 g15 g16 g17 g18 r0 r1 r2 r9) sz)) 0 0 (va_A (wdM cI h0 a0 a1 a2 a9 g3 g4 g5 g6 g7 g8 g10 g11 g12 g13 g14 g15 g16 g17 g18 r0 r1 r2 r9) sz) := by
  refine Met.ofW (cc := cXM_outputs) (maxL := 1) (ret := (some .int)) (by decide) rfl ?_
  intro p e s m args below meth c s₁ B hml hv
  obtain ⟨rfl, hsz, hP, hK, hD0, hT⟩ := hv
  have hx := B.exec
  have hb := B.bytes
  have hr := B.returns
  have hts := atoms_spec (ws := wsXM_outputs) B.pre
  have hown : s.vm.findClass RXM = some m.cls := findClass_of_methodNamed B.named
  have hlocks := B.notSynchronized
  subst hsz
  have hD := hD0.self (sz := s.heap.size)
  generalize hAe : va_A (wdM cI h0 a0 a1 a2 a9 g3 g4 g5 g6 g7 g8 g10 g11 g12 g13 g14 g15 g16 g17 g18 r0 r1 r2 r9) s.heap.size = A at hD hT ⊢
  have hA : ∀ q : Nat, s.heap.size ≤ q → A q := fun q h => by rw [← hAe]; exact Or.inr h
  have hS : va_S A s.heap s.heap [] := va_S.rf
  have hl := lv_entry ([.ref h0]) (n := 1) (Nat.le_of_ble_eq_true rfl)
  rw [lg_entry_eq]
  generalize (lg_sl ([.ref h0]) ++ List.replicate (1 - (lg_sl ([.ref h0])).length) Slot.unset).toArray = ls at hl ⊢
  have hl : lv_has ls 1 [(0, .ref h0)] := hl
  generalize hX : sM_outputs g3 g4 g5 g6 g7 g8 g10 g11 g12 g13 g14 g15 g16 g17 g18 r0 r1 r2 r9 = X
  refine bw_Q (fun Q hQ => ?_)
  have hinU : ∀ w ∈ wsXM0, w ∈ wsXM_outputs := fun w h => List.mem_cons_of_mem _ (List.mem_append_right _ h)
  have htM := fun w h => hts w (List.mem_cons_of_mem _ (List.mem_append_left _ h))
  unfold sM_outputs at hX
  unfold bM_outputs_0 at hX
  refine lv_aload_n hx hb dXM_outputs_0 rfl (lv_at hl 0 rfl) ?_
  refine va_get (D := D) (ci := 1) (v := .int g6) (C := RXM) (T := TXM) (N := 19) hx hb hts hinU hown hK hP 0 rfl rfl 6 (by decide) (htM _ wM_11) (fun _ h9 => h9) rfl dXM_outputs_1 ?_
  subst hQ
  exact W.iret (v := g6) hx hb hr (fun t ht hW => ⟨⟨g6, (g3, g4, g5, g6, g7, g8, g10, g11, g12, g13, g14, g15, g16, g17, g18, r0, r1, r2, r9), rfl, ⟨hX, rfl⟩, by rw [ht]; exact hP, va_K.moved hW.alike hK, hD⟩, hS.F ht⟩) hS.2.2 dXM_outputs_4
abbrev rmM_effective : Room := { frames := 0, cells := 0, slots := 0, locals := 0 }
set_option maxHeartbeats 4000000 in
set_option maxRecDepth 100000 in
theorem ctM_effective (l : Launch) (D : va_G) (cI : ClassId) (h0 a0 a1 a2 a9 sz : Nat) (g3 g4 g5 g6 g7 g8 g10 g11 g12 g13 g14 g15 g16 g17 g18 : Int32) (r0 r1 r2 r9 : Nat → Int32)   : Met l yXM_effective wsXM_effective rmM_effective (va_Pc [.ref h0] (bw_pr D vwC2 [(cI, .int)] (wdM cI h0 a0 a1 a2 a9 g3 g4 g5 g6 g7 g8 g10 g11 g12 g13 g14 g15 g16 g17 g18 r0 r1 r2 r9) sz (fun _ => True))) (va_Qi (fun r u => r = sM_effective g3 g4 g5 g6 g7 g8 g10 g11 g12 g13 g14 g15 g16 g17 g18 r0 r1 r2 r9 ∧ u = (g3, g4, g5, g6, g7, g8, g10, g11, g12, g13, g14, g15, g16, g17, g18, r0, r1, r2, r9)) (bw_at D vwC2 [(cI, .int)] (wfM cI h0 a0 a1 a2 a9) (va_A (wdM cI h0 a0 a1 a2 a9 g3 g4 g5 g6 g7 g8 g10 g11 g12 g13 g14 g15 g16 g17 g18 r0 r1 r2 r9) sz)) (va_A (wdM cI h0 a0 a1 a2 a9 g3 g4 g5 g6 g7 g8 g10 g11 g12 g13 g14 g15 g16 g17 g18 r0 r1 r2 r9) sz)) 0 0 (va_A (wdM cI h0 a0 a1 a2 a9 g3 g4 g5 g6 g7 g8 g10 g11 g12 g13 g14 g15 g16 g17 g18 r0 r1 r2 r9) sz) := by
  refine Met.ofW (cc := cXM_effective) (maxL := 1) (ret := (some .int)) (by decide) rfl ?_
  intro p e s m args below meth c s₁ B hml hv
  obtain ⟨rfl, hsz, hP, hK, hD0, hT⟩ := hv
  have hx := B.exec
  have hb := B.bytes
  have hr := B.returns
  have hts := atoms_spec (ws := wsXM_effective) B.pre
  have hown : s.vm.findClass RXM = some m.cls := findClass_of_methodNamed B.named
  have hlocks := B.notSynchronized
  subst hsz
  have hD := hD0.self (sz := s.heap.size)
  generalize hAe : va_A (wdM cI h0 a0 a1 a2 a9 g3 g4 g5 g6 g7 g8 g10 g11 g12 g13 g14 g15 g16 g17 g18 r0 r1 r2 r9) s.heap.size = A at hD hT ⊢
  have hA : ∀ q : Nat, s.heap.size ≤ q → A q := fun q h => by rw [← hAe]; exact Or.inr h
  have hS : va_S A s.heap s.heap [] := va_S.rf
  have hl := lv_entry ([.ref h0]) (n := 1) (Nat.le_of_ble_eq_true rfl)
  rw [lg_entry_eq]
  generalize (lg_sl ([.ref h0]) ++ List.replicate (1 - (lg_sl ([.ref h0])).length) Slot.unset).toArray = ls at hl ⊢
  have hl : lv_has ls 1 [(0, .ref h0)] := hl
  generalize hX : sM_effective g3 g4 g5 g6 g7 g8 g10 g11 g12 g13 g14 g15 g16 g17 g18 r0 r1 r2 r9 = X
  refine bw_Q (fun Q hQ => ?_)
  have hinU : ∀ w ∈ wsXM0, w ∈ wsXM_effective := fun w h => List.mem_cons_of_mem _ (List.mem_append_right _ h)
  have htM := fun w h => hts w (List.mem_cons_of_mem _ (List.mem_append_left _ h))
  unfold sM_effective at hX
  unfold bM_effective_0 at hX
  refine lv_aload_n hx hb dXM_effective_0 rfl (lv_at hl 0 rfl) ?_
  refine va_get (D := D) (ci := 1) (v := .int g14) (C := RXM) (T := TXM) (N := 19) hx hb hts hinU hown hK hP 0 rfl rfl 14 (by decide) (htM _ wM_19) (fun _ h9 => h9) rfl dXM_effective_1 ?_
  subst hQ
  exact W.iret (v := g14) hx hb hr (fun t ht hW => ⟨⟨g14, (g3, g4, g5, g6, g7, g8, g10, g11, g12, g13, g14, g15, g16, g17, g18, r0, r1, r2, r9), rfl, ⟨hX, rfl⟩, by rw [ht]; exact hP, va_K.moved hW.alike hK, hD⟩, hS.F ht⟩) hS.2.2 dXM_effective_4
abbrev rmM_accounted : Room := { frames := 0, cells := 0, slots := 0, locals := 0 }
set_option maxHeartbeats 4000000 in
set_option maxRecDepth 100000 in
theorem ctM_accounted (l : Launch) (D : va_G) (cI : ClassId) (h0 a0 a1 a2 a9 sz : Nat) (g3 g4 g5 g6 g7 g8 g10 g11 g12 g13 g14 g15 g16 g17 g18 : Int32) (r0 r1 r2 r9 : Nat → Int32)   : Met l yXM_accounted wsXM_accounted rmM_accounted (va_Pc [.ref h0] (bw_pr D vwC2 [(cI, .int)] (wdM cI h0 a0 a1 a2 a9 g3 g4 g5 g6 g7 g8 g10 g11 g12 g13 g14 g15 g16 g17 g18 r0 r1 r2 r9) sz (fun _ => True))) (va_Qi (fun r u => r = sM_accounted g3 g4 g5 g6 g7 g8 g10 g11 g12 g13 g14 g15 g16 g17 g18 r0 r1 r2 r9 ∧ u = (g3, g4, g5, g6, g7, g8, g10, g11, g12, g13, g14, g15, g16, g17, g18, r0, r1, r2, r9)) (bw_at D vwC2 [(cI, .int)] (wfM cI h0 a0 a1 a2 a9) (va_A (wdM cI h0 a0 a1 a2 a9 g3 g4 g5 g6 g7 g8 g10 g11 g12 g13 g14 g15 g16 g17 g18 r0 r1 r2 r9) sz)) (va_A (wdM cI h0 a0 a1 a2 a9 g3 g4 g5 g6 g7 g8 g10 g11 g12 g13 g14 g15 g16 g17 g18 r0 r1 r2 r9) sz)) 0 0 (va_A (wdM cI h0 a0 a1 a2 a9 g3 g4 g5 g6 g7 g8 g10 g11 g12 g13 g14 g15 g16 g17 g18 r0 r1 r2 r9) sz) := by
  refine Met.ofW (cc := cXM_accounted) (maxL := 1) (ret := (some .int)) (by decide) rfl ?_
  intro p e s m args below meth c s₁ B hml hv
  obtain ⟨rfl, hsz, hP, hK, hD0, hT⟩ := hv
  have hx := B.exec
  have hb := B.bytes
  have hr := B.returns
  have hts := atoms_spec (ws := wsXM_accounted) B.pre
  have hown : s.vm.findClass RXM = some m.cls := findClass_of_methodNamed B.named
  have hlocks := B.notSynchronized
  subst hsz
  have hD := hD0.self (sz := s.heap.size)
  generalize hAe : va_A (wdM cI h0 a0 a1 a2 a9 g3 g4 g5 g6 g7 g8 g10 g11 g12 g13 g14 g15 g16 g17 g18 r0 r1 r2 r9) s.heap.size = A at hD hT ⊢
  have hA : ∀ q : Nat, s.heap.size ≤ q → A q := fun q h => by rw [← hAe]; exact Or.inr h
  have hS : va_S A s.heap s.heap [] := va_S.rf
  have hl := lv_entry ([.ref h0]) (n := 1) (Nat.le_of_ble_eq_true rfl)
  rw [lg_entry_eq]
  generalize (lg_sl ([.ref h0]) ++ List.replicate (1 - (lg_sl ([.ref h0])).length) Slot.unset).toArray = ls at hl ⊢
  have hl : lv_has ls 1 [(0, .ref h0)] := hl
  generalize hX : sM_accounted g3 g4 g5 g6 g7 g8 g10 g11 g12 g13 g14 g15 g16 g17 g18 r0 r1 r2 r9 = X
  refine bw_Q (fun Q hQ => ?_)
  have hinU : ∀ w ∈ wsXM0, w ∈ wsXM_accounted := fun w h => List.mem_cons_of_mem _ (List.mem_append_right _ h)
  have htM := fun w h => hts w (List.mem_cons_of_mem _ (List.mem_append_left _ h))
  unfold sM_accounted at hX
  unfold bM_accounted_0 at hX
  refine lv_sipush (v := 500) hx hb dXM_accounted_0 (by decide +kernel) ?_
  refine lv_aload_n hx hb dXM_accounted_3 rfl (lv_at hl 0 rfl) ?_
  refine va_get (D := D) (ci := 1) (v := .int g15) (C := RXM) (T := TXM) (N := 19) hx hb hts hinU hown hK hP 0 rfl rfl 15 (by decide) (htM _ wM_20) (fun _ h9 => h9) rfl dXM_accounted_4 ?_
  refine lv_imul hx hb dXM_accounted_7 ?_
  subst hQ
  exact W.iret (v := 500 * g15) hx hb hr (fun t ht hW => ⟨⟨500 * g15, (g3, g4, g5, g6, g7, g8, g10, g11, g12, g13, g14, g15, g16, g17, g18, r0, r1, r2, r9), rfl, ⟨hX, rfl⟩, by rw [ht]; exact hP, va_K.moved hW.alike hK, hD⟩, hS.F ht⟩) hS.2.2 dXM_accounted_8
abbrev rmM_strokes : Room := { frames := 0, cells := 0, slots := 0, locals := 0 }
set_option maxHeartbeats 4000000 in
set_option maxRecDepth 100000 in
theorem ctM_strokes (l : Launch) (D : va_G) (cI : ClassId) (h0 a0 a1 a2 a9 sz : Nat) (g3 g4 g5 g6 g7 g8 g10 g11 g12 g13 g14 g15 g16 g17 g18 : Int32) (r0 r1 r2 r9 : Nat → Int32)   : Met l yXM_strokes wsXM_strokes rmM_strokes (va_Pc [.ref h0] (bw_pr D vwC2 [(cI, .int)] (wdM cI h0 a0 a1 a2 a9 g3 g4 g5 g6 g7 g8 g10 g11 g12 g13 g14 g15 g16 g17 g18 r0 r1 r2 r9) sz (fun _ => True))) (va_Qi (fun r u => r = sM_strokes g3 g4 g5 g6 g7 g8 g10 g11 g12 g13 g14 g15 g16 g17 g18 r0 r1 r2 r9 ∧ u = (g3, g4, g5, g6, g7, g8, g10, g11, g12, g13, g14, g15, g16, g17, g18, r0, r1, r2, r9)) (bw_at D vwC2 [(cI, .int)] (wfM cI h0 a0 a1 a2 a9) (va_A (wdM cI h0 a0 a1 a2 a9 g3 g4 g5 g6 g7 g8 g10 g11 g12 g13 g14 g15 g16 g17 g18 r0 r1 r2 r9) sz)) (va_A (wdM cI h0 a0 a1 a2 a9 g3 g4 g5 g6 g7 g8 g10 g11 g12 g13 g14 g15 g16 g17 g18 r0 r1 r2 r9) sz)) 0 0 (va_A (wdM cI h0 a0 a1 a2 a9 g3 g4 g5 g6 g7 g8 g10 g11 g12 g13 g14 g15 g16 g17 g18 r0 r1 r2 r9) sz) := by
  refine Met.ofW (cc := cXM_strokes) (maxL := 1) (ret := (some .int)) (by decide) rfl ?_
  intro p e s m args below meth c s₁ B hml hv
  obtain ⟨rfl, hsz, hP, hK, hD0, hT⟩ := hv
  have hx := B.exec
  have hb := B.bytes
  have hr := B.returns
  have hts := atoms_spec (ws := wsXM_strokes) B.pre
  have hown : s.vm.findClass RXM = some m.cls := findClass_of_methodNamed B.named
  have hlocks := B.notSynchronized
  subst hsz
  have hD := hD0.self (sz := s.heap.size)
  generalize hAe : va_A (wdM cI h0 a0 a1 a2 a9 g3 g4 g5 g6 g7 g8 g10 g11 g12 g13 g14 g15 g16 g17 g18 r0 r1 r2 r9) s.heap.size = A at hD hT ⊢
  have hA : ∀ q : Nat, s.heap.size ≤ q → A q := fun q h => by rw [← hAe]; exact Or.inr h
  have hS : va_S A s.heap s.heap [] := va_S.rf
  have hl := lv_entry ([.ref h0]) (n := 1) (Nat.le_of_ble_eq_true rfl)
  rw [lg_entry_eq]
  generalize (lg_sl ([.ref h0]) ++ List.replicate (1 - (lg_sl ([.ref h0])).length) Slot.unset).toArray = ls at hl ⊢
  have hl : lv_has ls 1 [(0, .ref h0)] := hl
  generalize hX : sM_strokes g3 g4 g5 g6 g7 g8 g10 g11 g12 g13 g14 g15 g16 g17 g18 r0 r1 r2 r9 = X
  refine bw_Q (fun Q hQ => ?_)
  have hinU : ∀ w ∈ wsXM0, w ∈ wsXM_strokes := fun w h => List.mem_cons_of_mem _ (List.mem_append_right _ h)
  have htM := fun w h => hts w (List.mem_cons_of_mem _ (List.mem_append_left _ h))
  unfold sM_strokes at hX
  unfold bM_strokes_0 at hX
  refine lv_aload_n hx hb dXM_strokes_0 rfl (lv_at hl 0 rfl) ?_
  refine va_get (D := D) (ci := 1) (v := .int g16) (C := RXM) (T := TXM) (N := 19) hx hb hts hinU hown hK hP 0 rfl rfl 16 (by decide) (htM _ wM_21) (fun _ h9 => h9) rfl dXM_strokes_1 ?_
  subst hQ
  exact W.iret (v := g16) hx hb hr (fun t ht hW => ⟨⟨g16, (g3, g4, g5, g6, g7, g8, g10, g11, g12, g13, g14, g15, g16, g17, g18, r0, r1, r2, r9), rfl, ⟨hX, rfl⟩, by rw [ht]; exact hP, va_K.moved hW.alike hK, hD⟩, hS.F ht⟩) hS.2.2 dXM_strokes_4
abbrev rmM_trips : Room := { frames := 0, cells := 0, slots := 0, locals := 0 }
set_option maxHeartbeats 4000000 in
set_option maxRecDepth 100000 in
theorem ctM_trips (l : Launch) (D : va_G) (cI : ClassId) (h0 a0 a1 a2 a9 sz : Nat) (g3 g4 g5 g6 g7 g8 g10 g11 g12 g13 g14 g15 g16 g17 g18 : Int32) (r0 r1 r2 r9 : Nat → Int32)   : Met l yXM_trips wsXM_trips rmM_trips (va_Pc [.ref h0] (bw_pr D vwC2 [(cI, .int)] (wdM cI h0 a0 a1 a2 a9 g3 g4 g5 g6 g7 g8 g10 g11 g12 g13 g14 g15 g16 g17 g18 r0 r1 r2 r9) sz (fun _ => True))) (va_Qi (fun r u => r = sM_trips g3 g4 g5 g6 g7 g8 g10 g11 g12 g13 g14 g15 g16 g17 g18 r0 r1 r2 r9 ∧ u = (g3, g4, g5, g6, g7, g8, g10, g11, g12, g13, g14, g15, g16, g17, g18, r0, r1, r2, r9)) (bw_at D vwC2 [(cI, .int)] (wfM cI h0 a0 a1 a2 a9) (va_A (wdM cI h0 a0 a1 a2 a9 g3 g4 g5 g6 g7 g8 g10 g11 g12 g13 g14 g15 g16 g17 g18 r0 r1 r2 r9) sz)) (va_A (wdM cI h0 a0 a1 a2 a9 g3 g4 g5 g6 g7 g8 g10 g11 g12 g13 g14 g15 g16 g17 g18 r0 r1 r2 r9) sz)) 0 0 (va_A (wdM cI h0 a0 a1 a2 a9 g3 g4 g5 g6 g7 g8 g10 g11 g12 g13 g14 g15 g16 g17 g18 r0 r1 r2 r9) sz) := by
  refine Met.ofW (cc := cXM_trips) (maxL := 1) (ret := (some .int)) (by decide) rfl ?_
  intro p e s m args below meth c s₁ B hml hv
  obtain ⟨rfl, hsz, hP, hK, hD0, hT⟩ := hv
  have hx := B.exec
  have hb := B.bytes
  have hr := B.returns
  have hts := atoms_spec (ws := wsXM_trips) B.pre
  have hown : s.vm.findClass RXM = some m.cls := findClass_of_methodNamed B.named
  have hlocks := B.notSynchronized
  subst hsz
  have hD := hD0.self (sz := s.heap.size)
  generalize hAe : va_A (wdM cI h0 a0 a1 a2 a9 g3 g4 g5 g6 g7 g8 g10 g11 g12 g13 g14 g15 g16 g17 g18 r0 r1 r2 r9) s.heap.size = A at hD hT ⊢
  have hA : ∀ q : Nat, s.heap.size ≤ q → A q := fun q h => by rw [← hAe]; exact Or.inr h
  have hS : va_S A s.heap s.heap [] := va_S.rf
  have hl := lv_entry ([.ref h0]) (n := 1) (Nat.le_of_ble_eq_true rfl)
  rw [lg_entry_eq]
  generalize (lg_sl ([.ref h0]) ++ List.replicate (1 - (lg_sl ([.ref h0])).length) Slot.unset).toArray = ls at hl ⊢
  have hl : lv_has ls 1 [(0, .ref h0)] := hl
  generalize hX : sM_trips g3 g4 g5 g6 g7 g8 g10 g11 g12 g13 g14 g15 g16 g17 g18 r0 r1 r2 r9 = X
  refine bw_Q (fun Q hQ => ?_)
  have hinU : ∀ w ∈ wsXM0, w ∈ wsXM_trips := fun w h => List.mem_cons_of_mem _ (List.mem_append_right _ h)
  have htM := fun w h => hts w (List.mem_cons_of_mem _ (List.mem_append_left _ h))
  unfold sM_trips at hX
  unfold bM_trips_0 at hX
  refine lv_aload_n hx hb dXM_trips_0 rfl (lv_at hl 0 rfl) ?_
  refine va_get (D := D) (ci := 1) (v := .int g17) (C := RXM) (T := TXM) (N := 19) hx hb hts hinU hown hK hP 0 rfl rfl 17 (by decide) (htM _ wM_22) (fun _ h9 => h9) rfl dXM_trips_1 ?_
  subst hQ
  exact W.iret (v := g17) hx hb hr (fun t ht hW => ⟨⟨g17, (g3, g4, g5, g6, g7, g8, g10, g11, g12, g13, g14, g15, g16, g17, g18, r0, r1, r2, r9), rfl, ⟨hX, rfl⟩, by rw [ht]; exact hP, va_K.moved hW.alike hK, hD⟩, hS.F ht⟩) hS.2.2 dXM_trips_4
abbrev rmM_counted : Room := { frames := 0, cells := 0, slots := 0, locals := 0 }
set_option maxHeartbeats 4000000 in
set_option maxRecDepth 100000 in
theorem ctM_counted (l : Launch) (D : va_G) (cI : ClassId) (h0 a0 a1 a2 a9 sz : Nat) (g3 g4 g5 g6 g7 g8 g10 g11 g12 g13 g14 g15 g16 g17 g18 : Int32) (r0 r1 r2 r9 : Nat → Int32)   : Met l yXM_counted wsXM_counted rmM_counted (va_Pc [.ref h0] (bw_pr D vwC2 [(cI, .int)] (wdM cI h0 a0 a1 a2 a9 g3 g4 g5 g6 g7 g8 g10 g11 g12 g13 g14 g15 g16 g17 g18 r0 r1 r2 r9) sz (fun _ => True))) (va_Qi (fun r u => r = sM_counted g3 g4 g5 g6 g7 g8 g10 g11 g12 g13 g14 g15 g16 g17 g18 r0 r1 r2 r9 ∧ u = (g3, g4, g5, g6, g7, g8, g10, g11, g12, g13, g14, g15, g16, g17, g18, r0, r1, r2, r9)) (bw_at D vwC2 [(cI, .int)] (wfM cI h0 a0 a1 a2 a9) (va_A (wdM cI h0 a0 a1 a2 a9 g3 g4 g5 g6 g7 g8 g10 g11 g12 g13 g14 g15 g16 g17 g18 r0 r1 r2 r9) sz)) (va_A (wdM cI h0 a0 a1 a2 a9 g3 g4 g5 g6 g7 g8 g10 g11 g12 g13 g14 g15 g16 g17 g18 r0 r1 r2 r9) sz)) 0 0 (va_A (wdM cI h0 a0 a1 a2 a9 g3 g4 g5 g6 g7 g8 g10 g11 g12 g13 g14 g15 g16 g17 g18 r0 r1 r2 r9) sz) := by
  refine Met.ofW (cc := cXM_counted) (maxL := 1) (ret := (some .int)) (by decide) rfl ?_
  intro p e s m args below meth c s₁ B hml hv
  obtain ⟨rfl, hsz, hP, hK, hD0, hT⟩ := hv
  have hx := B.exec
  have hb := B.bytes
  have hr := B.returns
  have hts := atoms_spec (ws := wsXM_counted) B.pre
  have hown : s.vm.findClass RXM = some m.cls := findClass_of_methodNamed B.named
  have hlocks := B.notSynchronized
  subst hsz
  have hD := hD0.self (sz := s.heap.size)
  generalize hAe : va_A (wdM cI h0 a0 a1 a2 a9 g3 g4 g5 g6 g7 g8 g10 g11 g12 g13 g14 g15 g16 g17 g18 r0 r1 r2 r9) s.heap.size = A at hD hT ⊢
  have hA : ∀ q : Nat, s.heap.size ≤ q → A q := fun q h => by rw [← hAe]; exact Or.inr h
  have hS : va_S A s.heap s.heap [] := va_S.rf
  have hl := lv_entry ([.ref h0]) (n := 1) (Nat.le_of_ble_eq_true rfl)
  rw [lg_entry_eq]
  generalize (lg_sl ([.ref h0]) ++ List.replicate (1 - (lg_sl ([.ref h0])).length) Slot.unset).toArray = ls at hl ⊢
  have hl : lv_has ls 1 [(0, .ref h0)] := hl
  generalize hX : sM_counted g3 g4 g5 g6 g7 g8 g10 g11 g12 g13 g14 g15 g16 g17 g18 r0 r1 r2 r9 = X
  refine bw_Q (fun Q hQ => ?_)
  have hinU : ∀ w ∈ wsXM0, w ∈ wsXM_counted := fun w h => List.mem_cons_of_mem _ (List.mem_append_right _ h)
  have htM := fun w h => hts w (List.mem_cons_of_mem _ (List.mem_append_left _ h))
  unfold sM_counted at hX
  unfold bM_counted_0 at hX
  refine lv_aload_n hx hb dXM_counted_0 rfl (lv_at hl 0 rfl) ?_
  refine va_get (D := D) (ci := 1) (v := .int g18) (C := RXM) (T := TXM) (N := 19) hx hb hts hinU hown hK hP 0 rfl rfl 18 (by decide) (htM _ wM_23) (fun _ h9 => h9) rfl dXM_counted_1 ?_
  subst hQ
  exact W.iret (v := g18) hx hb hr (fun t ht hW => ⟨⟨g18, (g3, g4, g5, g6, g7, g8, g10, g11, g12, g13, g14, g15, g16, g17, g18, r0, r1, r2, r9), rfl, ⟨hX, rfl⟩, by rw [ht]; exact hP, va_K.moved hW.alike hK, hD⟩, hS.F ht⟩) hS.2.2 dXM_counted_4
abbrev rmM_steady : Room := { frames := 0, cells := 0, slots := 0, locals := 0 }
set_option maxHeartbeats 4000000 in
set_option maxRecDepth 100000 in
theorem ctM_steady (l : Launch) (D : va_G) (cI : ClassId) (h0 a0 a1 a2 a9 sz : Nat) (g3 g4 g5 g6 g7 g8 g10 g11 g12 g13 g14 g15 g16 g17 g18 : Int32) (r0 r1 r2 r9 : Nat → Int32)   : Met l yXM_steady wsXM_steady rmM_steady (va_Pc [.ref h0] (bw_pr D vwC2 [(cI, .int)] (wdM cI h0 a0 a1 a2 a9 g3 g4 g5 g6 g7 g8 g10 g11 g12 g13 g14 g15 g16 g17 g18 r0 r1 r2 r9) sz (fun _ => True))) (va_Qi (fun r u => r = sM_steady g3 g4 g5 g6 g7 g8 g10 g11 g12 g13 g14 g15 g16 g17 g18 r0 r1 r2 r9 ∧ u = (g3, g4, g5, g6, g7, g8, g10, g11, g12, g13, g14, g15, g16, g17, g18, r0, r1, r2, r9)) (bw_at D vwC2 [(cI, .int)] (wfM cI h0 a0 a1 a2 a9) (va_A (wdM cI h0 a0 a1 a2 a9 g3 g4 g5 g6 g7 g8 g10 g11 g12 g13 g14 g15 g16 g17 g18 r0 r1 r2 r9) sz)) (va_A (wdM cI h0 a0 a1 a2 a9 g3 g4 g5 g6 g7 g8 g10 g11 g12 g13 g14 g15 g16 g17 g18 r0 r1 r2 r9) sz)) 0 0 (va_A (wdM cI h0 a0 a1 a2 a9 g3 g4 g5 g6 g7 g8 g10 g11 g12 g13 g14 g15 g16 g17 g18 r0 r1 r2 r9) sz) := by
  refine Met.ofW (cc := cXM_steady) (maxL := 1) (ret := (some .int)) (by decide) rfl ?_
  intro p e s m args below meth c s₁ B hml hv
  obtain ⟨rfl, hsz, hP, hK, hD0, hT⟩ := hv
  have hx := B.exec
  have hb := B.bytes
  have hr := B.returns
  have hts := atoms_spec (ws := wsXM_steady) B.pre
  have hown : s.vm.findClass RXM = some m.cls := findClass_of_methodNamed B.named
  have hlocks := B.notSynchronized
  subst hsz
  have hD := hD0.self (sz := s.heap.size)
  generalize hAe : va_A (wdM cI h0 a0 a1 a2 a9 g3 g4 g5 g6 g7 g8 g10 g11 g12 g13 g14 g15 g16 g17 g18 r0 r1 r2 r9) s.heap.size = A at hD hT ⊢
  have hA : ∀ q : Nat, s.heap.size ≤ q → A q := fun q h => by rw [← hAe]; exact Or.inr h
  have hS : va_S A s.heap s.heap [] := va_S.rf
  have hl := lv_entry ([.ref h0]) (n := 1) (Nat.le_of_ble_eq_true rfl)
  rw [lg_entry_eq]
  generalize (lg_sl ([.ref h0]) ++ List.replicate (1 - (lg_sl ([.ref h0])).length) Slot.unset).toArray = ls at hl ⊢
  have hl : lv_has ls 1 [(0, .ref h0)] := hl
  generalize hX : sM_steady g3 g4 g5 g6 g7 g8 g10 g11 g12 g13 g14 g15 g16 g17 g18 r0 r1 r2 r9 = X
  refine bw_Q (fun Q hQ => ?_)
  have hinU : ∀ w ∈ wsXM0, w ∈ wsXM_steady := fun w h => List.mem_cons_of_mem _ (List.mem_append_right _ h)
  have htM := fun w h => hts w (List.mem_cons_of_mem _ (List.mem_append_left _ h))
  unfold sM_steady at hX
  unfold bM_steady_0 at hX
  refine lv_aload_n hx hb dXM_steady_0 rfl (lv_at hl 0 rfl) ?_
  refine va_get (D := D) (ci := 1) (v := .int g8) (C := RXM) (T := TXM) (N := 19) hx hb hts hinU hown hK hP 0 rfl rfl 8 (by decide) (htM _ wM_13) (fun _ h9 => h9) rfl dXM_steady_1 ?_
  refine lv_aload_n hx hb dXM_steady_4 rfl (lv_at hl 0 rfl) ?_
  refine va_get (D := D) (ci := 1) (v := .int g13) (C := RXM) (T := TXM) (N := 19) hx hb hts hinU hown hK hP 0 rfl rfl 13 (by decide) (htM _ wM_18) (fun _ h9 => h9) rfl dXM_steady_5 ?_
  refine lv_isub hx hb dXM_steady_8 ?_
  subst hQ
  exact W.iret (v := g8 - g13) hx hb hr (fun t ht hW => ⟨⟨g8 - g13, (g3, g4, g5, g6, g7, g8, g10, g11, g12, g13, g14, g15, g16, g17, g18, r0, r1, r2, r9), rfl, ⟨hX, rfl⟩, by rw [ht]; exact hP, va_K.moved hW.alike hK, hD⟩, hS.F ht⟩) hS.2.2 dXM_steady_9
