abbrev rmX_init : Room := { frames := 1, cells := 4, slots := 28, locals := 24 }
set_option maxHeartbeats 4000000 in
set_option maxRecDepth 100000 in
theorem ctX_init (l : Launch) (D : va_G) (cI : ClassId) (h0 sz : Nat) : Met l yX0_init wsX0_init rmX_init (va_Pc [.ref h0] (bw_pr D vwC2 [(cI, .int)] [(h0, .inr (0, [.null, .null, .null, .null, .int 0, .int 0, .int 0, .int 0, .int 0, .int 0, .int 0, .int 0, .int 0, .int 0, .int 0, .int 0, .int 0, .int 0]))] sz (tiX (va_A ([(h0, .inr (0, [.null, .null, .null, .null, .int 0, .int 0, .int 0, .int 0, .int 0, .int 0, .int 0, .int 0, .int 0, .int 0, .int 0, .int 0, .int 0, .int 0]))]) sz) cI))) (va_Qv (fun (u : (Nat × Nat × Nat × Nat) × SX) => u.2 = sX_init) (bw_at D vwC2 [(cI, .int)] (fun (u : (Nat × Nat × Nat × Nat) × SX) => wfX cI h0 u.1.1 u.1.2.1 u.1.2.2.1 u.1.2.2.2 u.2) (va_A ([(h0, .inr (0, [.null, .null, .null, .null, .int 0, .int 0, .int 0, .int 0, .int 0, .int 0, .int 0, .int 0, .int 0, .int 0, .int 0, .int 0, .int 0, .int 0]))]) sz)) (va_A ([(h0, .inr (0, [.null, .null, .null, .null, .int 0, .int 0, .int 0, .int 0, .int 0, .int 0, .int 0, .int 0, .int 0, .int 0, .int 0, .int 0, .int 0, .int 0]))]) sz)) 4 28 (va_A ([(h0, .inr (0, [.null, .null, .null, .null, .int 0, .int 0, .int 0, .int 0, .int 0, .int 0, .int 0, .int 0, .int 0, .int 0, .int 0, .int 0, .int 0, .int 0]))]) sz) := by
  refine Met.ofW (cc := cX0_init) (maxL := 1) (ret := none) (by decide) rfl ?_
  intro p e s m args below meth c s₁ B hml hv
  obtain ⟨rfl, hsz, hP, hK, hD0, hT⟩ := hv
  have hx := B.exec
  have hb := B.bytes
  have hr := B.returns
  have hts := atoms_spec (ws := wsX0_init) B.pre
  have hown : s.vm.findClass RX0 = some m.cls := findClass_of_methodNamed B.named
  have hlocks := B.notSynchronized
  have hin9 : meth.name = "<init>" := (name_of_methodNamed B.named B.method).1
  subst hsz
  have hD := hD0.self (sz := s.heap.size)
  generalize hAe : va_A ([(h0, .inr (0, [.null, .null, .null, .null, .int 0, .int 0, .int 0, .int 0, .int 0, .int 0, .int 0, .int 0, .int 0, .int 0, .int 0, .int 0, .int 0, .int 0]))]) s.heap.size = A at hD hT ⊢
  have hA : ∀ q : Nat, s.heap.size ≤ q → A q := fun q h => by rw [← hAe]; exact Or.inr h
  have hS : va_S A s.heap s.heap [] := va_S.rf
  have hl := lv_entry ([.ref h0]) (n := 1) (Nat.le_of_ble_eq_true rfl)
  rw [lg_entry_eq]
  generalize (lg_sl ([.ref h0]) ++ List.replicate (1 - (lg_sl ([.ref h0])).length) Slot.unset).toArray = ls at hl ⊢
  have hl : lv_has ls 1 [(0, .ref h0)] := hl
  generalize hX : sX_init = X
  refine bw_Q (fun Q hQ => ?_)
  have hinU : ∀ w ∈ wsX00, w ∈ wsX0_init := fun w h => List.mem_cons_of_mem _ (List.mem_append_right _ h)
  obtain ⟨⟨t_P, cell_P, z_PARAMETER_AT_FIRST, e1_PARAMETER_AT_FIRST, e2_PARAMETER_AT_FIRST, e3_PARAMETER_AT_FIRST, e4_PARAMETER_AT_FIRST, e5_PARAMETER_AT_FIRST, e6_PARAMETER_AT_FIRST⟩, ⟨t_S, cell_S, z_SENSOR_AT_FIRST, e1_SENSOR_AT_FIRST, e2_SENSOR_AT_FIRST, e3_SENSOR_AT_FIRST, e4_SENSOR_AT_FIRST, e5_SENSOR_AT_FIRST, e6_SENSOR_AT_FIRST⟩, hcst⟩ := hT
  refine lv_aload_n hx hb dX0_init_0 rfl (lv_at hl 0 rfl) ?_
  refine W.objInit hx hb hown (hts (.methodLink RX0 3 objectInit) (by decide +kernel)) (hts (.instanceMethod objectInit) (by decide +kernel)) (hts _ (List.mem_cons_of_mem _ (List.mem_append_left _ (List.mem_of_getElem? (i := 2) rfl)))) rfl (by rw [hml]; exact hl.1) rfl dX0_init_1 (Nat.le_of_ble_eq_true rfl) (Nat.le_of_ble_eq_true rfl) ?_
  refine W.eq (g2 := F0 m 4 ls []) rfl ?_
  refine lv_aload_n hx hb dX0_init_4 rfl (lv_at hl 0 rfl) ?_
  refine va_gets (C := RX0) (n := "PARAMETER_AT_FIRST") (d := "[I") hx hb z_PARAMETER_AT_FIRST hS hown (hts (.fieldLink RX0 9 "BloodCircuitChannels" "PARAMETER_AT_FIRST" "[I") (by decide +kernel)) (fun _ h9 => h9) dX0_init_5 ?_
  refine bw_clone (N := 10) (f := tPF) hx hb (by rw [hml]; exact hl.1.symm) hown (hts (.methodLink RX0 13 ⟨"[I", "clone", "()Ljava/lang/Object;"⟩) (by decide +kernel)) (hts (.sameMethod "[I" "java/lang/Object" "clone" "()Ljava/lang/Object;") (by decide +kernel)) (hts (.native ⟨"java/lang/Object", "clone", "()Ljava/lang/Object;"⟩) (by decide +kernel)) (hts (.instanceMethod ⟨"java/lang/Object", "clone", "()Ljava/lang/Object;"⟩) (by decide +kernel)) (hts (.selects "[I" ⟨"[I", "clone", "()Ljava/lang/Object;"⟩ ⟨"java/lang/Object", "clone", "()Ljava/lang/Object;"⟩) (by decide +kernel)) hcst hK hP hD hS hA 0 rfl e1_PARAMETER_AT_FIRST e2_PARAMETER_AT_FIRST e3_PARAMETER_AT_FIRST e4_PARAMETER_AT_FIRST e5_PARAMETER_AT_FIRST e6_PARAMETER_AT_FIRST (Nat.le_of_ble_eq_true rfl) (Nat.le_of_ble_eq_true rfl) (Nat.le_of_ble_eq_true rfl) (Nat.le_of_ble_eq_true rfl) dX0_init_8 (fun a0 H hP hD hS => ?_)
  have hP : va_P D vwC2 [(h0, .inr (0, [.null, .null, .null, .null, .int 0, .int 0, .int 0, .int 0, .int 0, .int 0, .int 0, .int 0, .int 0, .int 0, .int 0, .int 0, .int 0, .int 0])), (a0, .inl (cI, 10, .inl tPF))] H := hP
  have hD : va_D A [(h0, .inr (0, [.null, .null, .null, .null, .int 0, .int 0, .int 0, .int 0, .int 0, .int 0, .int 0, .int 0, .int 0, .int 0, .int 0, .int 0, .int 0, .int 0])), (a0, .inl (cI, 10, .inl tPF))] := hD
  refine va_castA hx hb hown (hts (.classLink RX0 14 "[I") (by decide +kernel)) hP 1 rfl (va_nm_int (hK.2 0 _ rfl).2) dX0_init_11 ?_
  refine va_putF (D := D) (ci := 0) (v := .ref a0) (ty := (.array .int)) (C := RX0) (T := TX0) (N := 18) hx hb hts hinU tyX0 tyX0_ok nmX0 hown hK hP hD hS 0 rfl rfl 0 (by decide) (hts (.fieldLink RX0 18 "BloodCircuitChannels" "parameters" "[I") (by decide +kernel)) (fun _ h9 => h9) rfl hin9 rfl (by decide +kernel) rfl rfl (Nat.le_of_ble_eq_true rfl) dX0_init_14 (fun H locs hP hD hS => ?_)
  have hP : va_P D vwC2 [(h0, .inr (0, [.ref a0, .null, .null, .null, .int 0, .int 0, .int 0, .int 0, .int 0, .int 0, .int 0, .int 0, .int 0, .int 0, .int 0, .int 0, .int 0, .int 0])), (a0, .inl (cI, 10, .inl tPF))] H := hP
  have hD : va_D A [(h0, .inr (0, [.ref a0, .null, .null, .null, .int 0, .int 0, .int 0, .int 0, .int 0, .int 0, .int 0, .int 0, .int 0, .int 0, .int 0, .int 0, .int 0, .int 0])), (a0, .inl (cI, 10, .inl tPF))] := hD
  refine lv_aload_n hx hb dX0_init_17 rfl (lv_at hl 0 rfl) ?_
  refine va_gets (C := RX0) (n := "SENSOR_AT_FIRST") (d := "[I") hx hb z_SENSOR_AT_FIRST hS hown (hts (.fieldLink RX0 21 "BloodCircuitChannels" "SENSOR_AT_FIRST" "[I") (by decide +kernel)) (fun _ h9 => h9) dX0_init_18 ?_
  refine bw_clone (N := 6) (f := tSF) hx hb (by rw [hml]; exact hl.1.symm) hown (hts (.methodLink RX0 13 ⟨"[I", "clone", "()Ljava/lang/Object;"⟩) (by decide +kernel)) (hts (.sameMethod "[I" "java/lang/Object" "clone" "()Ljava/lang/Object;") (by decide +kernel)) (hts (.native ⟨"java/lang/Object", "clone", "()Ljava/lang/Object;"⟩) (by decide +kernel)) (hts (.instanceMethod ⟨"java/lang/Object", "clone", "()Ljava/lang/Object;"⟩) (by decide +kernel)) (hts (.selects "[I" ⟨"[I", "clone", "()Ljava/lang/Object;"⟩ ⟨"java/lang/Object", "clone", "()Ljava/lang/Object;"⟩) (by decide +kernel)) hcst hK hP hD hS hA 0 rfl e1_SENSOR_AT_FIRST e2_SENSOR_AT_FIRST e3_SENSOR_AT_FIRST e4_SENSOR_AT_FIRST e5_SENSOR_AT_FIRST e6_SENSOR_AT_FIRST (Nat.le_of_ble_eq_true rfl) (Nat.le_of_ble_eq_true rfl) (Nat.le_of_ble_eq_true rfl) (Nat.le_of_ble_eq_true rfl) dX0_init_21 (fun a1 H hP hD hS => ?_)
  have hP : va_P D vwC2 [(h0, .inr (0, [.ref a0, .null, .null, .null, .int 0, .int 0, .int 0, .int 0, .int 0, .int 0, .int 0, .int 0, .int 0, .int 0, .int 0, .int 0, .int 0, .int 0])), (a0, .inl (cI, 10, .inl tPF)), (a1, .inl (cI, 6, .inl tSF))] H := hP
  have hD : va_D A [(h0, .inr (0, [.ref a0, .null, .null, .null, .int 0, .int 0, .int 0, .int 0, .int 0, .int 0, .int 0, .int 0, .int 0, .int 0, .int 0, .int 0, .int 0, .int 0])), (a0, .inl (cI, 10, .inl tPF)), (a1, .inl (cI, 6, .inl tSF))] := hD
  refine va_castA hx hb hown (hts (.classLink RX0 14 "[I") (by decide +kernel)) hP 2 rfl (va_nm_int (hK.2 0 _ rfl).2) dX0_init_24 ?_
  refine va_putF (D := D) (ci := 0) (v := .ref a1) (ty := (.array .int)) (C := RX0) (T := TX0) (N := 18) hx hb hts hinU tyX0 tyX0_ok nmX0 hown hK hP hD hS 0 rfl rfl 1 (by decide) (hts (.fieldLink RX0 24 "BloodCircuitChannels" "raw" "[I") (by decide +kernel)) (fun _ h9 => h9) rfl hin9 rfl (by decide +kernel) rfl rfl (Nat.le_of_ble_eq_true rfl) dX0_init_27 (fun H locs hP hD hS => ?_)
  have hP : va_P D vwC2 [(h0, .inr (0, [.ref a0, .ref a1, .null, .null, .int 0, .int 0, .int 0, .int 0, .int 0, .int 0, .int 0, .int 0, .int 0, .int 0, .int 0, .int 0, .int 0, .int 0])), (a0, .inl (cI, 10, .inl tPF)), (a1, .inl (cI, 6, .inl tSF))] H := hP
  have hD : va_D A [(h0, .inr (0, [.ref a0, .ref a1, .null, .null, .int 0, .int 0, .int 0, .int 0, .int 0, .int 0, .int 0, .int 0, .int 0, .int 0, .int 0, .int 0, .int 0, .int 0])), (a0, .inl (cI, 10, .inl tPF)), (a1, .inl (cI, 6, .inl tSF))] := hD
  refine lv_aload_n hx hb dX0_init_30 rfl (lv_at hl 0 rfl) ?_
  refine va_gets (C := RX0) (n := "SENSOR_AT_FIRST") (d := "[I") hx hb z_SENSOR_AT_FIRST hS hown (hts (.fieldLink RX0 21 "BloodCircuitChannels" "SENSOR_AT_FIRST" "[I") (by decide +kernel)) (fun _ h9 => h9) dX0_init_31 ?_
  refine bw_clone (N := 6) (f := tSF) hx hb (by rw [hml]; exact hl.1.symm) hown (hts (.methodLink RX0 13 ⟨"[I", "clone", "()Ljava/lang/Object;"⟩) (by decide +kernel)) (hts (.sameMethod "[I" "java/lang/Object" "clone" "()Ljava/lang/Object;") (by decide +kernel)) (hts (.native ⟨"java/lang/Object", "clone", "()Ljava/lang/Object;"⟩) (by decide +kernel)) (hts (.instanceMethod ⟨"java/lang/Object", "clone", "()Ljava/lang/Object;"⟩) (by decide +kernel)) (hts (.selects "[I" ⟨"[I", "clone", "()Ljava/lang/Object;"⟩ ⟨"java/lang/Object", "clone", "()Ljava/lang/Object;"⟩) (by decide +kernel)) hcst hK hP hD hS hA 0 rfl e1_SENSOR_AT_FIRST e2_SENSOR_AT_FIRST e3_SENSOR_AT_FIRST e4_SENSOR_AT_FIRST e5_SENSOR_AT_FIRST e6_SENSOR_AT_FIRST (Nat.le_of_ble_eq_true rfl) (Nat.le_of_ble_eq_true rfl) (Nat.le_of_ble_eq_true rfl) (Nat.le_of_ble_eq_true rfl) dX0_init_34 (fun a2 H hP hD hS => ?_)
  have hP : va_P D vwC2 [(h0, .inr (0, [.ref a0, .ref a1, .null, .null, .int 0, .int 0, .int 0, .int 0, .int 0, .int 0, .int 0, .int 0, .int 0, .int 0, .int 0, .int 0, .int 0, .int 0])), (a0, .inl (cI, 10, .inl tPF)), (a1, .inl (cI, 6, .inl tSF)), (a2, .inl (cI, 6, .inl tSF))] H := hP
  have hD : va_D A [(h0, .inr (0, [.ref a0, .ref a1, .null, .null, .int 0, .int 0, .int 0, .int 0, .int 0, .int 0, .int 0, .int 0, .int 0, .int 0, .int 0, .int 0, .int 0, .int 0])), (a0, .inl (cI, 10, .inl tPF)), (a1, .inl (cI, 6, .inl tSF)), (a2, .inl (cI, 6, .inl tSF))] := hD
  refine va_castA hx hb hown (hts (.classLink RX0 14 "[I") (by decide +kernel)) hP 3 rfl (va_nm_int (hK.2 0 _ rfl).2) dX0_init_37 ?_
  refine va_putF (D := D) (ci := 0) (v := .ref a2) (ty := (.array .int)) (C := RX0) (T := TX0) (N := 18) hx hb hts hinU tyX0 tyX0_ok nmX0 hown hK hP hD hS 0 rfl rfl 2 (by decide) (hts (.fieldLink RX0 27 "BloodCircuitChannels" "conditioned" "[I") (by decide +kernel)) (fun _ h9 => h9) rfl hin9 rfl (by decide +kernel) rfl rfl (Nat.le_of_ble_eq_true rfl) dX0_init_40 (fun H locs hP hD hS => ?_)
  have hP : va_P D vwC2 [(h0, .inr (0, [.ref a0, .ref a1, .ref a2, .null, .int 0, .int 0, .int 0, .int 0, .int 0, .int 0, .int 0, .int 0, .int 0, .int 0, .int 0, .int 0, .int 0, .int 0])), (a0, .inl (cI, 10, .inl tPF)), (a1, .inl (cI, 6, .inl tSF)), (a2, .inl (cI, 6, .inl tSF))] H := hP
  have hD : va_D A [(h0, .inr (0, [.ref a0, .ref a1, .ref a2, .null, .int 0, .int 0, .int 0, .int 0, .int 0, .int 0, .int 0, .int 0, .int 0, .int 0, .int 0, .int 0, .int 0, .int 0])), (a0, .inl (cI, 10, .inl tPF)), (a1, .inl (cI, 6, .inl tSF)), (a2, .inl (cI, 6, .inl tSF))] := hD
  refine lv_aload_n hx hb dX0_init_43 rfl (lv_at hl 0 rfl) ?_
  refine lv_bipush (v := 6) hx hb dX0_init_44 (by decide +kernel) ?_
  refine va_newa (atype := .int) (N' := 6) (a0 := (6, .inl (fun _ => 0))) (ty := .int) (n := 6) hx hb (hts (.arrayClass .int) (by decide +kernel)) rfl hK hP hD hS hA (fun _ => rfl) (by decide) (by decide +kernel) (by decide) (Nat.le_of_ble_eq_true rfl) (Nat.le_of_ble_eq_true rfl) dX0_init_46 (fun a3 cA H hK1 hP hD hS => ?_)
  have ec : cI = cA := (bw_cI hK1).symm
  subst ec
  have hP : va_P D vwC2 [(h0, .inr (0, [.ref a0, .ref a1, .ref a2, .null, .int 0, .int 0, .int 0, .int 0, .int 0, .int 0, .int 0, .int 0, .int 0, .int 0, .int 0, .int 0, .int 0, .int 0])), (a0, .inl (cI, 10, .inl tPF)), (a1, .inl (cI, 6, .inl tSF)), (a2, .inl (cI, 6, .inl tSF)), (a3, .inl (cI, 6, .inl (fun _ => 0)))] H := hP
  have hD : va_D A [(h0, .inr (0, [.ref a0, .ref a1, .ref a2, .null, .int 0, .int 0, .int 0, .int 0, .int 0, .int 0, .int 0, .int 0, .int 0, .int 0, .int 0, .int 0, .int 0, .int 0])), (a0, .inl (cI, 10, .inl tPF)), (a1, .inl (cI, 6, .inl tSF)), (a2, .inl (cI, 6, .inl tSF)), (a3, .inl (cI, 6, .inl (fun _ => 0)))] := hD
  refine va_putF (D := D) (ci := 0) (v := .ref a3) (ty := (.array .int)) (C := RX0) (T := TX0) (N := 18) hx hb hts hinU tyX0 tyX0_ok nmX0 hown hK hP hD hS 0 rfl rfl 3 (by decide) (hts (.fieldLink RX0 30 "BloodCircuitChannels" "implausibleTicks" "[I") (by decide +kernel)) (fun _ h9 => h9) rfl hin9 rfl (by decide +kernel) rfl rfl (Nat.le_of_ble_eq_true rfl) dX0_init_48 (fun H locs hP hD hS => ?_)
  have hP : va_P D vwC2 [(h0, .inr (0, [.ref a0, .ref a1, .ref a2, .ref a3, .int 0, .int 0, .int 0, .int 0, .int 0, .int 0, .int 0, .int 0, .int 0, .int 0, .int 0, .int 0, .int 0, .int 0])), (a0, .inl (cI, 10, .inl tPF)), (a1, .inl (cI, 6, .inl tSF)), (a2, .inl (cI, 6, .inl tSF)), (a3, .inl (cI, 6, .inl (fun _ => 0)))] H := hP
  have hD : va_D A [(h0, .inr (0, [.ref a0, .ref a1, .ref a2, .ref a3, .int 0, .int 0, .int 0, .int 0, .int 0, .int 0, .int 0, .int 0, .int 0, .int 0, .int 0, .int 0, .int 0, .int 0])), (a0, .inl (cI, 10, .inl tPF)), (a1, .inl (cI, 6, .inl tSF)), (a2, .inl (cI, 6, .inl tSF)), (a3, .inl (cI, 6, .inl (fun _ => 0)))] := hD
  refine lv_aload_n hx hb dX0_init_51 rfl (lv_at hl 0 rfl) ?_
  refine lv_iconst (v := 0) hx hb dX0_init_52 (by decide +kernel) ?_
  refine va_put (D := D) (ci := 0) (v := .int 0) (ty := .int) (C := RX0) (T := TX0) (N := 18) hx hb hts hinU tyX0 tyX0_ok nmX0 hown hK hP hD hS 0 rfl rfl 4 (by decide) (hts (.fieldLink RX0 33 "BloodCircuitChannels" "phase" "I") (by decide +kernel)) (fun _ h9 => h9) rfl (by decide +kernel) rfl rfl (Nat.le_of_ble_eq_true rfl) dX0_init_53 (fun H locs hP hD hS => ?_)
  have hP : va_P D vwC2 [(h0, .inr (0, [.ref a0, .ref a1, .ref a2, .ref a3, .int 0, .int 0, .int 0, .int 0, .int 0, .int 0, .int 0, .int 0, .int 0, .int 0, .int 0, .int 0, .int 0, .int 0])), (a0, .inl (cI, 10, .inl tPF)), (a1, .inl (cI, 6, .inl tSF)), (a2, .inl (cI, 6, .inl tSF)), (a3, .inl (cI, 6, .inl (fun _ => 0)))] H := hP
  have hD : va_D A [(h0, .inr (0, [.ref a0, .ref a1, .ref a2, .ref a3, .int 0, .int 0, .int 0, .int 0, .int 0, .int 0, .int 0, .int 0, .int 0, .int 0, .int 0, .int 0, .int 0, .int 0])), (a0, .inl (cI, 10, .inl tPF)), (a1, .inl (cI, 6, .inl tSF)), (a2, .inl (cI, 6, .inl tSF)), (a3, .inl (cI, 6, .inl (fun _ => 0)))] := hD
  refine lv_aload_n hx hb dX0_init_56 rfl (lv_at hl 0 rfl) ?_
  refine lv_iconst (v := (-1)) hx hb dX0_init_57 (by decide +kernel) ?_
  refine va_put (D := D) (ci := 0) (v := .int (-1)) (ty := .int) (C := RX0) (T := TX0) (N := 18) hx hb hts hinU tyX0 tyX0_ok nmX0 hown hK hP hD hS 0 rfl rfl 8 (by decide) (hts (.fieldLink RX0 37 "BloodCircuitChannels" "substituted" "I") (by decide +kernel)) (fun _ h9 => h9) rfl (by decide +kernel) rfl rfl (Nat.le_of_ble_eq_true rfl) dX0_init_58 (fun H locs hP hD hS => ?_)
  have hP : va_P D vwC2 [(h0, .inr (0, [.ref a0, .ref a1, .ref a2, .ref a3, .int 0, .int 0, .int 0, .int 0, .int (-1), .int 0, .int 0, .int 0, .int 0, .int 0, .int 0, .int 0, .int 0, .int 0])), (a0, .inl (cI, 10, .inl tPF)), (a1, .inl (cI, 6, .inl tSF)), (a2, .inl (cI, 6, .inl tSF)), (a3, .inl (cI, 6, .inl (fun _ => 0)))] H := hP
  have hD : va_D A [(h0, .inr (0, [.ref a0, .ref a1, .ref a2, .ref a3, .int 0, .int 0, .int 0, .int 0, .int (-1), .int 0, .int 0, .int 0, .int 0, .int 0, .int 0, .int 0, .int 0, .int 0])), (a0, .inl (cI, 10, .inl tPF)), (a1, .inl (cI, 6, .inl tSF)), (a2, .inl (cI, 6, .inl tSF)), (a3, .inl (cI, 6, .inl (fun _ => 0)))] := hD
  subst hQ
  refine W.widen (k := 4) (n := 28) (by decide) (by decide) ?_
  exact W.vret hx hb hr (fun t ht hW => ⟨⟨((a0, a1, a2, a3), sX_init), rfl, hX, by rw [ht]; exact hP, va_K.moved hW.alike hK, hD⟩, hS.F ht⟩) hS.2.2 dX0_init_61
abbrev rmM_init : Room := { frames := 1, cells := 4, slots := 28, locals := 20 }
set_option maxHeartbeats 4000000 in
set_option maxRecDepth 100000 in
theorem ctM_init (l : Launch) (D : va_G) (cI : ClassId) (h0 sz : Nat) : Met l yXM_init wsXM_init rmM_init (va_Pc [.ref h0] (bw_pr D vwC2 [(cI, .int)] [(h0, .inr (1, [.null, .null, .null, .int 0, .int 0, .int 0, .int 0, .int 0, .int 0, .null, .int 0, .int 0, .int 0, .int 0, .int 0, .int 0, .int 0, .int 0, .int 0]))] sz (fun _ => True))) (va_Qv (fun (u : (Nat × Nat × Nat × Nat) × SM) => u.2 = sM_init) (bw_at D vwC2 [(cI, .int)] (fun (u : (Nat × Nat × Nat × Nat) × SM) => wfM cI h0 u.1.1 u.1.2.1 u.1.2.2.1 u.1.2.2.2 u.2) (va_A ([(h0, .inr (1, [.null, .null, .null, .int 0, .int 0, .int 0, .int 0, .int 0, .int 0, .null, .int 0, .int 0, .int 0, .int 0, .int 0, .int 0, .int 0, .int 0, .int 0]))]) sz)) (va_A ([(h0, .inr (1, [.null, .null, .null, .int 0, .int 0, .int 0, .int 0, .int 0, .int 0, .null, .int 0, .int 0, .int 0, .int 0, .int 0, .int 0, .int 0, .int 0, .int 0]))]) sz)) 4 28 (va_A ([(h0, .inr (1, [.null, .null, .null, .int 0, .int 0, .int 0, .int 0, .int 0, .int 0, .null, .int 0, .int 0, .int 0, .int 0, .int 0, .int 0, .int 0, .int 0, .int 0]))]) sz) := by
  refine Met.ofW (cc := cXM_init) (maxL := 2) (ret := none) (by decide) rfl ?_
  intro p e s m args below meth c s₁ B hml hv
  obtain ⟨rfl, hsz, hP, hK, hD0, hT⟩ := hv
  have hx := B.exec
  have hb := B.bytes
  have hr := B.returns
  have hts := atoms_spec (ws := wsXM_init) B.pre
  have hown : s.vm.findClass RXM = some m.cls := findClass_of_methodNamed B.named
  have hlocks := B.notSynchronized
  have hin9 : meth.name = "<init>" := (name_of_methodNamed B.named B.method).1
  subst hsz
  have hD := hD0.self (sz := s.heap.size)
  generalize hAe : va_A ([(h0, .inr (1, [.null, .null, .null, .int 0, .int 0, .int 0, .int 0, .int 0, .int 0, .null, .int 0, .int 0, .int 0, .int 0, .int 0, .int 0, .int 0, .int 0, .int 0]))]) s.heap.size = A at hD ⊢
  have hA : ∀ q : Nat, s.heap.size ≤ q → A q := fun q h => by rw [← hAe]; exact Or.inr h
  have hS : va_S A s.heap s.heap [] := va_S.rf
  have hl := lv_entry ([.ref h0]) (n := 2) (Nat.le_of_ble_eq_true rfl)
  rw [lg_entry_eq]
  generalize (lg_sl ([.ref h0]) ++ List.replicate (2 - (lg_sl ([.ref h0])).length) Slot.unset).toArray = ls at hl ⊢
  have hl : lv_has ls 2 [(0, .ref h0)] := hl
  generalize hX : sM_init = X
  refine bw_Q (fun Q hQ => ?_)
  have hinU : ∀ w ∈ wsXM0, w ∈ wsXM_init := fun w h => List.mem_cons_of_mem _ (List.mem_append_right _ h)
  have htM := fun w h => hts w (List.mem_cons_of_mem _ (List.mem_append_left _ h))
  have JH164 : ∀ (a0 a1 a2 a9 : Nat), ∀ (f k : Nat), k < f → k ≤ 6 → ∀ (g3 g4 g5 g6 g7 g8 g10 g11 g12 g13 g14 g15 g16 g17 g18 : Int32) (r0 r1 r2 r9 : Nat → Int32) (x1 : Int32), x1 = nI (6 - k) → ∀ (H : Heap) (locs : List Loc) (ls : Array Slot), lv_has ls 2 [(0, .ref h0), (1, .int x1)] → va_P D vwC2 (wdM cI h0 a0 a1 a2 a9 g3 g4 g5 g6 g7 g8 g10 g11 g12 g13 g14 g15 g16 g17 g18 r0 r1 r2 r9) H → va_D A (wdM cI h0 a0 a1 a2 a9 g3 g4 g5 g6 g7 g8 g10 g11 g12 g13 g14 g15 g16 g17 g18 r0 r1 r2 r9) → va_S A s.heap H locs → bM_init_164 f g3 g4 g5 g6 g7 g8 g10 g11 g12 g13 g14 g15 g16 g17 g18 r0 r1 r2 r9 x1 = X → W p l e (headSpec wsXM_init rmM_init).room s m ([.ref h0] : List Value).toArray below meth c H locs 4 28 Q (F0 m 164 ls []) := by
    intro a0 a1 a2 a9 f
    induction f with
    | zero => intro k hkf; omega
    | succ f ih =>
      intro k hkf hkN g3 g4 g5 g6 g7 g8 g10 g11 g12 g13 g14 g15 g16 g17 g18 r0 r1 r2 r9 x1 hi H locs ls hl hP hD hS hX
      rw [bM_init_164_s] at hX
      refine lv_iload_n hx hb dXM_init_164 rfl (lv_at hl 1 rfl) ?_
      refine lv_bipush (v := 6) hx hb dXM_init_165 (by decide +kernel) ?_
      refine lv_icmp_ge (tgt := 227) hx hb dXM_init_167 (by decide) (fun hc167 => ?_) (fun hc167 => ?_)
      · rw [if_pos hc167] at hX
        subst hQ
        exact W.vret hx hb hr (fun t ht hW => ⟨⟨((a0, a1, a2, a9), (g3, g4, g5, g6, g7, g8, g10, g11, g12, g13, g14, g15, g16, g17, g18, r0, r1, r2, r9)), rfl, hX, by rw [ht]; exact hP, va_K.moved hW.alike hK, hD⟩, hS.F ht⟩) hS.2.2 dXM_init_227
      · rw [if_neg hc167] at hX
        have hk0 : k ≠ 0 := fun h => hc167 (by rw [hi, h]; decide +kernel)
        obtain ⟨k, rfl⟩ : ∃ k', k = k' + 1 := ⟨k - 1, by omega⟩
        have hin : vp_in x1 6 := by rw [hi]; exact vp_in_nI (by omega) (by decide)
        unfold bM_init_170 at hX
        refine lv_aload_n hx hb dXM_init_170 rfl (lv_at hl 0 rfl) ?_
        refine va_get (D := D) (ci := 1) (v := .ref a1) (C := RXM) (T := TXM) (N := 19) hx hb hts hinU hown hK hP 0 rfl rfl 1 (by decide) (htM _ wM_6) (fun _ h9 => h9) rfl dXM_init_171 ?_
        refine lv_iload_n hx hb dXM_init_174 rfl (lv_at hl 1 rfl) ?_
        refine lv_iload_n hx hb dXM_init_175 rfl (lv_at hl 1 rfl) ?_
        refine lv_iconst (v := 1) hx hb dXM_init_176 (by decide +kernel) ?_
        refine lv_icmp_ne (tgt := 185) hx hb dXM_init_177 (by decide) (fun hc177 => ?_) (fun hc177 => ?_)
        · rw [if_neg hc177] at hX
          unfold bM_init_185 at hX
          refine lv_iload_n hx hb dXM_init_185 rfl (lv_at hl 1 rfl) ?_
          refine lv_iconst (v := 2) hx hb dXM_init_186 (by decide +kernel) ?_
          refine lv_icmp_ne (tgt := 196) hx hb dXM_init_187 (by decide) (fun hc187 => ?_) (fun hc187 => ?_)
          · rw [if_neg hc187] at hX
            unfold bM_init_196 at hX
            refine lv_iload_n hx hb dXM_init_196 rfl (lv_at hl 1 rfl) ?_
            refine lv_iconst (v := 3) hx hb dXM_init_197 (by decide +kernel) ?_
            refine lv_icmp_ne (tgt := 207) hx hb dXM_init_198 (by decide) (fun hc198 => ?_) (fun hc198 => ?_)
            · rw [if_neg hc198] at hX
              unfold bM_init_207 at hX
              refine lv_iconst (v := 0) hx hb dXM_init_207 (by decide +kernel) ?_
              unfold bM_init_208 at hX
              refine va_iast hx hb hK hP hD hS 2 0 rfl rfl hin dXM_init_208 (fun H locs hP hD hS => ?_)
              have hP : va_P D vwC2 (wdM cI h0 a0 a1 a2 a9 g3 g4 g5 g6 g7 g8 g10 g11 g12 g13 g14 g15 g16 g17 g18 r0 (upd r1 x1.toNatClampNeg 0) r2 r9) H := hP
              have hD : va_D A (wdM cI h0 a0 a1 a2 a9 g3 g4 g5 g6 g7 g8 g10 g11 g12 g13 g14 g15 g16 g17 g18 r0 (upd r1 x1.toNatClampNeg 0) r2 r9) := hD
              refine lv_aload_n hx hb dXM_init_209 rfl (lv_at hl 0 rfl) ?_
              refine va_get (D := D) (ci := 1) (v := .ref a2) (C := RXM) (T := TXM) (N := 19) hx hb hts hinU hown hK hP 0 rfl rfl 2 (by decide) (htM _ wM_7) (fun _ h9 => h9) rfl dXM_init_210 ?_
              refine lv_iload_n hx hb dXM_init_213 rfl (lv_at hl 1 rfl) ?_
              refine lv_aload_n hx hb dXM_init_214 rfl (lv_at hl 0 rfl) ?_
              refine va_get (D := D) (ci := 1) (v := .ref a1) (C := RXM) (T := TXM) (N := 19) hx hb hts hinU hown hK hP 0 rfl rfl 1 (by decide) (htM _ wM_6) (fun _ h9 => h9) rfl dXM_init_215 ?_
              refine lv_iload_n hx hb dXM_init_218 rfl (lv_at hl 1 rfl) ?_
              refine va_iald hx hb hK hP 2 0 rfl rfl hin dXM_init_219 ?_
              refine va_iast hx hb hK hP hD hS 3 0 rfl rfl hin dXM_init_220 (fun H locs hP hD hS => ?_)
              have hP : va_P D vwC2 (wdM cI h0 a0 a1 a2 a9 g3 g4 g5 g6 g7 g8 g10 g11 g12 g13 g14 g15 g16 g17 g18 r0 (upd r1 x1.toNatClampNeg 0) (upd r2 x1.toNatClampNeg ((upd r1 x1.toNatClampNeg 0) x1.toNatClampNeg)) r9) H := hP
              have hD : va_D A (wdM cI h0 a0 a1 a2 a9 g3 g4 g5 g6 g7 g8 g10 g11 g12 g13 g14 g15 g16 g17 g18 r0 (upd r1 x1.toNatClampNeg 0) (upd r2 x1.toNatClampNeg ((upd r1 x1.toNatClampNeg 0) x1.toNatClampNeg)) r9) := hD
              refine lv_iinc (k := 1) (v := x1 + 1) (lv' := [(1, .int (x1 + 1)), (0, .ref h0)]) hx hb dXM_init_221 hl rfl (bw_inc1 _) (by decide) rfl (fun ls hl => ?_)
              refine lv_goto (tgt := 164) hx hb dXM_init_224 (by decide) ?_
              exact ih k (by omega) (by omega) g3 g4 g5 g6 g7 g8 g10 g11 g12 g13 g14 g15 g16 g17 g18 r0 (upd r1 x1.toNatClampNeg 0) (upd r2 x1.toNatClampNeg ((upd r1 x1.toNatClampNeg 0) x1.toNatClampNeg)) r9 (x1 + 1) (bw_nx hi (by omega)) _ _ ls (lv_sub hl [1, 0] rfl) hP hD hS hX
            · rw [if_pos hc198] at hX
              unfold bM_init_201 at hX
              refine lv_sipush (v := 1400) hx hb dXM_init_201 (by decide +kernel) ?_
              refine lv_goto (tgt := 208) hx hb dXM_init_204 (by decide) ?_
              unfold bM_init_208 at hX
              refine va_iast hx hb hK hP hD hS 2 0 rfl rfl hin dXM_init_208 (fun H locs hP hD hS => ?_)
              have hP : va_P D vwC2 (wdM cI h0 a0 a1 a2 a9 g3 g4 g5 g6 g7 g8 g10 g11 g12 g13 g14 g15 g16 g17 g18 r0 (upd r1 x1.toNatClampNeg 1400) r2 r9) H := hP
              have hD : va_D A (wdM cI h0 a0 a1 a2 a9 g3 g4 g5 g6 g7 g8 g10 g11 g12 g13 g14 g15 g16 g17 g18 r0 (upd r1 x1.toNatClampNeg 1400) r2 r9) := hD
              refine lv_aload_n hx hb dXM_init_209 rfl (lv_at hl 0 rfl) ?_
              refine va_get (D := D) (ci := 1) (v := .ref a2) (C := RXM) (T := TXM) (N := 19) hx hb hts hinU hown hK hP 0 rfl rfl 2 (by decide) (htM _ wM_7) (fun _ h9 => h9) rfl dXM_init_210 ?_
              refine lv_iload_n hx hb dXM_init_213 rfl (lv_at hl 1 rfl) ?_
              refine lv_aload_n hx hb dXM_init_214 rfl (lv_at hl 0 rfl) ?_
              refine va_get (D := D) (ci := 1) (v := .ref a1) (C := RXM) (T := TXM) (N := 19) hx hb hts hinU hown hK hP 0 rfl rfl 1 (by decide) (htM _ wM_6) (fun _ h9 => h9) rfl dXM_init_215 ?_
              refine lv_iload_n hx hb dXM_init_218 rfl (lv_at hl 1 rfl) ?_
              refine va_iald hx hb hK hP 2 0 rfl rfl hin dXM_init_219 ?_
              refine va_iast hx hb hK hP hD hS 3 0 rfl rfl hin dXM_init_220 (fun H locs hP hD hS => ?_)
              have hP : va_P D vwC2 (wdM cI h0 a0 a1 a2 a9 g3 g4 g5 g6 g7 g8 g10 g11 g12 g13 g14 g15 g16 g17 g18 r0 (upd r1 x1.toNatClampNeg 1400) (upd r2 x1.toNatClampNeg ((upd r1 x1.toNatClampNeg 1400) x1.toNatClampNeg)) r9) H := hP
              have hD : va_D A (wdM cI h0 a0 a1 a2 a9 g3 g4 g5 g6 g7 g8 g10 g11 g12 g13 g14 g15 g16 g17 g18 r0 (upd r1 x1.toNatClampNeg 1400) (upd r2 x1.toNatClampNeg ((upd r1 x1.toNatClampNeg 1400) x1.toNatClampNeg)) r9) := hD
              refine lv_iinc (k := 1) (v := x1 + 1) (lv' := [(1, .int (x1 + 1)), (0, .ref h0)]) hx hb dXM_init_221 hl rfl (bw_inc1 _) (by decide) rfl (fun ls hl => ?_)
              refine lv_goto (tgt := 164) hx hb dXM_init_224 (by decide) ?_
              exact ih k (by omega) (by omega) g3 g4 g5 g6 g7 g8 g10 g11 g12 g13 g14 g15 g16 g17 g18 r0 (upd r1 x1.toNatClampNeg 1400) (upd r2 x1.toNatClampNeg ((upd r1 x1.toNatClampNeg 1400) x1.toNatClampNeg)) r9 (x1 + 1) (bw_nx hi (by omega)) _ _ ls (lv_sub hl [1, 0] rfl) hP hD hS hX
          · rw [if_pos hc187] at hX
            unfold bM_init_190 at hX
            refine lv_sipush (v := 370) hx hb dXM_init_190 (by decide +kernel) ?_
            refine lv_goto (tgt := 208) hx hb dXM_init_193 (by decide) ?_
            unfold bM_init_208 at hX
            refine va_iast hx hb hK hP hD hS 2 0 rfl rfl hin dXM_init_208 (fun H locs hP hD hS => ?_)
            have hP : va_P D vwC2 (wdM cI h0 a0 a1 a2 a9 g3 g4 g5 g6 g7 g8 g10 g11 g12 g13 g14 g15 g16 g17 g18 r0 (upd r1 x1.toNatClampNeg 370) r2 r9) H := hP
            have hD : va_D A (wdM cI h0 a0 a1 a2 a9 g3 g4 g5 g6 g7 g8 g10 g11 g12 g13 g14 g15 g16 g17 g18 r0 (upd r1 x1.toNatClampNeg 370) r2 r9) := hD
            refine lv_aload_n hx hb dXM_init_209 rfl (lv_at hl 0 rfl) ?_
            refine va_get (D := D) (ci := 1) (v := .ref a2) (C := RXM) (T := TXM) (N := 19) hx hb hts hinU hown hK hP 0 rfl rfl 2 (by decide) (htM _ wM_7) (fun _ h9 => h9) rfl dXM_init_210 ?_
            refine lv_iload_n hx hb dXM_init_213 rfl (lv_at hl 1 rfl) ?_
            refine lv_aload_n hx hb dXM_init_214 rfl (lv_at hl 0 rfl) ?_
            refine va_get (D := D) (ci := 1) (v := .ref a1) (C := RXM) (T := TXM) (N := 19) hx hb hts hinU hown hK hP 0 rfl rfl 1 (by decide) (htM _ wM_6) (fun _ h9 => h9) rfl dXM_init_215 ?_
            refine lv_iload_n hx hb dXM_init_218 rfl (lv_at hl 1 rfl) ?_
            refine va_iald hx hb hK hP 2 0 rfl rfl hin dXM_init_219 ?_
            refine va_iast hx hb hK hP hD hS 3 0 rfl rfl hin dXM_init_220 (fun H locs hP hD hS => ?_)
            have hP : va_P D vwC2 (wdM cI h0 a0 a1 a2 a9 g3 g4 g5 g6 g7 g8 g10 g11 g12 g13 g14 g15 g16 g17 g18 r0 (upd r1 x1.toNatClampNeg 370) (upd r2 x1.toNatClampNeg ((upd r1 x1.toNatClampNeg 370) x1.toNatClampNeg)) r9) H := hP
            have hD : va_D A (wdM cI h0 a0 a1 a2 a9 g3 g4 g5 g6 g7 g8 g10 g11 g12 g13 g14 g15 g16 g17 g18 r0 (upd r1 x1.toNatClampNeg 370) (upd r2 x1.toNatClampNeg ((upd r1 x1.toNatClampNeg 370) x1.toNatClampNeg)) r9) := hD
            refine lv_iinc (k := 1) (v := x1 + 1) (lv' := [(1, .int (x1 + 1)), (0, .ref h0)]) hx hb dXM_init_221 hl rfl (bw_inc1 _) (by decide) rfl (fun ls hl => ?_)
            refine lv_goto (tgt := 164) hx hb dXM_init_224 (by decide) ?_
            exact ih k (by omega) (by omega) g3 g4 g5 g6 g7 g8 g10 g11 g12 g13 g14 g15 g16 g17 g18 r0 (upd r1 x1.toNatClampNeg 370) (upd r2 x1.toNatClampNeg ((upd r1 x1.toNatClampNeg 370) x1.toNatClampNeg)) r9 (x1 + 1) (bw_nx hi (by omega)) _ _ ls (lv_sub hl [1, 0] rfl) hP hD hS hX
        · rw [if_pos hc177] at hX
          unfold bM_init_180 at hX
          refine lv_bipush (v := 100) hx hb dXM_init_180 (by decide +kernel) ?_
          refine lv_goto (tgt := 208) hx hb dXM_init_182 (by decide) ?_
          unfold bM_init_208 at hX
          refine va_iast hx hb hK hP hD hS 2 0 rfl rfl hin dXM_init_208 (fun H locs hP hD hS => ?_)
          have hP : va_P D vwC2 (wdM cI h0 a0 a1 a2 a9 g3 g4 g5 g6 g7 g8 g10 g11 g12 g13 g14 g15 g16 g17 g18 r0 (upd r1 x1.toNatClampNeg 100) r2 r9) H := hP
          have hD : va_D A (wdM cI h0 a0 a1 a2 a9 g3 g4 g5 g6 g7 g8 g10 g11 g12 g13 g14 g15 g16 g17 g18 r0 (upd r1 x1.toNatClampNeg 100) r2 r9) := hD
          refine lv_aload_n hx hb dXM_init_209 rfl (lv_at hl 0 rfl) ?_
          refine va_get (D := D) (ci := 1) (v := .ref a2) (C := RXM) (T := TXM) (N := 19) hx hb hts hinU hown hK hP 0 rfl rfl 2 (by decide) (htM _ wM_7) (fun _ h9 => h9) rfl dXM_init_210 ?_
          refine lv_iload_n hx hb dXM_init_213 rfl (lv_at hl 1 rfl) ?_
          refine lv_aload_n hx hb dXM_init_214 rfl (lv_at hl 0 rfl) ?_
          refine va_get (D := D) (ci := 1) (v := .ref a1) (C := RXM) (T := TXM) (N := 19) hx hb hts hinU hown hK hP 0 rfl rfl 1 (by decide) (htM _ wM_6) (fun _ h9 => h9) rfl dXM_init_215 ?_
          refine lv_iload_n hx hb dXM_init_218 rfl (lv_at hl 1 rfl) ?_
          refine va_iald hx hb hK hP 2 0 rfl rfl hin dXM_init_219 ?_
          refine va_iast hx hb hK hP hD hS 3 0 rfl rfl hin dXM_init_220 (fun H locs hP hD hS => ?_)
          have hP : va_P D vwC2 (wdM cI h0 a0 a1 a2 a9 g3 g4 g5 g6 g7 g8 g10 g11 g12 g13 g14 g15 g16 g17 g18 r0 (upd r1 x1.toNatClampNeg 100) (upd r2 x1.toNatClampNeg ((upd r1 x1.toNatClampNeg 100) x1.toNatClampNeg)) r9) H := hP
          have hD : va_D A (wdM cI h0 a0 a1 a2 a9 g3 g4 g5 g6 g7 g8 g10 g11 g12 g13 g14 g15 g16 g17 g18 r0 (upd r1 x1.toNatClampNeg 100) (upd r2 x1.toNatClampNeg ((upd r1 x1.toNatClampNeg 100) x1.toNatClampNeg)) r9) := hD
          refine lv_iinc (k := 1) (v := x1 + 1) (lv' := [(1, .int (x1 + 1)), (0, .ref h0)]) hx hb dXM_init_221 hl rfl (bw_inc1 _) (by decide) rfl (fun ls hl => ?_)
          refine lv_goto (tgt := 164) hx hb dXM_init_224 (by decide) ?_
          exact ih k (by omega) (by omega) g3 g4 g5 g6 g7 g8 g10 g11 g12 g13 g14 g15 g16 g17 g18 r0 (upd r1 x1.toNatClampNeg 100) (upd r2 x1.toNatClampNeg ((upd r1 x1.toNatClampNeg 100) x1.toNatClampNeg)) r9 (x1 + 1) (bw_nx hi (by omega)) _ _ ls (lv_sub hl [1, 0] rfl) hP hD hS hX
  have J162 : ∀ (a0 a1 a2 a9 : Nat), ∀ (g3 g4 g5 g6 g7 g8 g10 g11 g12 g13 g14 g15 g16 g17 g18 : Int32) (r0 r1 r2 r9 : Nat → Int32) (H : Heap) (locs : List Loc) (ls : Array Slot), lv_has ls 2 [(0, .ref h0)] → va_P D vwC2 (wdM cI h0 a0 a1 a2 a9 g3 g4 g5 g6 g7 g8 g10 g11 g12 g13 g14 g15 g16 g17 g18 r0 r1 r2 r9) H → va_D A (wdM cI h0 a0 a1 a2 a9 g3 g4 g5 g6 g7 g8 g10 g11 g12 g13 g14 g15 g16 g17 g18 r0 r1 r2 r9) → va_S A s.heap H locs → bM_init_162 g3 g4 g5 g6 g7 g8 g10 g11 g12 g13 g14 g15 g16 g17 g18 r0 r1 r2 r9 = X → W p l e (headSpec wsXM_init rmM_init).room s m ([.ref h0] : List Value).toArray below meth c H locs 4 28 Q (F0 m 162 ls []) := by
    intro a0 a1 a2 a9 g3 g4 g5 g6 g7 g8 g10 g11 g12 g13 g14 g15 g16 g17 g18 r0 r1 r2 r9 H locs ls hl hP hD hS hX
    unfold bM_init_162 at hX
    refine lv_iconst (v := 0) hx hb dXM_init_162 (by decide +kernel) ?_
    refine lv_istore_n (lv' := [(1, .int 0), (0, .ref h0)]) hx hb dXM_init_163 rfl hl (by decide) rfl (fun ls hl => ?_)
    exact JH164 a0 a1 a2 a9 7 6 (by omega) (by omega) g3 g4 g5 g6 g7 g8 g10 g11 g12 g13 g14 g15 g16 g17 g18 r0 r1 r2 r9 0 (by decide +kernel) _ _ ls (lv_sub hl [1, 0] rfl) hP hD hS hX
  have JH43 : ∀ (a0 a1 a2 a9 : Nat), ∀ (f k : Nat), k < f → k ≤ 10 → ∀ (g3 g4 g5 g6 g7 g8 g10 g11 g12 g13 g14 g15 g16 g17 g18 : Int32) (r0 r1 r2 r9 : Nat → Int32) (x1 : Int32), x1 = nI (10 - k) → ∀ (H : Heap) (locs : List Loc) (ls : Array Slot), lv_has ls 2 [(0, .ref h0), (1, .int x1)] → va_P D vwC2 (wdM cI h0 a0 a1 a2 a9 g3 g4 g5 g6 g7 g8 g10 g11 g12 g13 g14 g15 g16 g17 g18 r0 r1 r2 r9) H → va_D A (wdM cI h0 a0 a1 a2 a9 g3 g4 g5 g6 g7 g8 g10 g11 g12 g13 g14 g15 g16 g17 g18 r0 r1 r2 r9) → va_S A s.heap H locs → bM_init_43 f g3 g4 g5 g6 g7 g8 g10 g11 g12 g13 g14 g15 g16 g17 g18 r0 r1 r2 r9 x1 = X → W p l e (headSpec wsXM_init rmM_init).room s m ([.ref h0] : List Value).toArray below meth c H locs 4 28 Q (F0 m 43 ls []) := by
    intro a0 a1 a2 a9 f
    induction f with
    | zero => intro k hkf; omega
    | succ f ih =>
      intro k hkf hkN g3 g4 g5 g6 g7 g8 g10 g11 g12 g13 g14 g15 g16 g17 g18 r0 r1 r2 r9 x1 hi H locs ls hl hP hD hS hX
      rw [bM_init_43_s] at hX
      refine lv_iload_n hx hb dXM_init_43 rfl (lv_at hl 1 rfl) ?_
      refine lv_bipush (v := 10) hx hb dXM_init_44 (by decide +kernel) ?_
      refine lv_icmp_ge (tgt := 162) hx hb dXM_init_46 (by decide) (fun hc46 => ?_) (fun hc46 => ?_)
      · rw [if_pos hc46] at hX
        exact J162 a0 a1 a2 a9 g3 g4 g5 g6 g7 g8 g10 g11 g12 g13 g14 g15 g16 g17 g18 r0 r1 r2 r9 _ _ ls (lv_sub hl [0] rfl) hP hD hS hX
      · rw [if_neg hc46] at hX
        have hk0 : k ≠ 0 := fun h => hc46 (by rw [hi, h]; decide +kernel)
        obtain ⟨k, rfl⟩ : ∃ k', k = k' + 1 := ⟨k - 1, by omega⟩
        have hin : vp_in x1 10 := by rw [hi]; exact vp_in_nI (by omega) (by decide)
        unfold bM_init_49 at hX
        refine lv_aload_n hx hb dXM_init_49 rfl (lv_at hl 0 rfl) ?_
        refine va_get (D := D) (ci := 1) (v := .ref a0) (C := RXM) (T := TXM) (N := 19) hx hb hts hinU hown hK hP 0 rfl rfl 0 (by decide) (htM _ wM_5) (fun _ h9 => h9) rfl dXM_init_50 ?_
        refine lv_iload_n hx hb dXM_init_53 rfl (lv_at hl 1 rfl) ?_
        refine lv_iload_n hx hb dXM_init_54 rfl (lv_at hl 1 rfl) ?_
        refine lv_if_ne (tgt := 64) hx hb dXM_init_55 (by decide) (fun hc55 => ?_) (fun hc55 => ?_)
        · rw [if_neg hc55] at hX
          unfold bM_init_64 at hX
          refine lv_iload_n hx hb dXM_init_64 rfl (lv_at hl 1 rfl) ?_
          refine lv_iconst (v := 2) hx hb dXM_init_65 (by decide +kernel) ?_
          refine lv_icmp_ne (tgt := 75) hx hb dXM_init_66 (by decide) (fun hc66 => ?_) (fun hc66 => ?_)
          · rw [if_neg hc66] at hX
            unfold bM_init_75 at hX
            refine lv_iload_n hx hb dXM_init_75 rfl (lv_at hl 1 rfl) ?_
            refine lv_iconst (v := 3) hx hb dXM_init_76 (by decide +kernel) ?_
            refine lv_icmp_ne (tgt := 86) hx hb dXM_init_77 (by decide) (fun hc77 => ?_) (fun hc77 => ?_)
            · rw [if_neg hc77] at hX
              unfold bM_init_86 at hX
              refine lv_iload_n hx hb dXM_init_86 rfl (lv_at hl 1 rfl) ?_
              refine lv_iconst (v := 4) hx hb dXM_init_87 (by decide +kernel) ?_
              refine lv_icmp_ne (tgt := 97) hx hb dXM_init_88 (by decide) (fun hc88 => ?_) (fun hc88 => ?_)
              · rw [if_neg hc88] at hX
                unfold bM_init_97 at hX
                refine lv_iload_n hx hb dXM_init_97 rfl (lv_at hl 1 rfl) ?_
                refine lv_iconst (v := 5) hx hb dXM_init_98 (by decide +kernel) ?_
                refine lv_icmp_ne (tgt := 108) hx hb dXM_init_99 (by decide) (fun hc99 => ?_) (fun hc99 => ?_)
                · rw [if_neg hc99] at hX
                  unfold bM_init_108 at hX
                  refine lv_iload_n hx hb dXM_init_108 rfl (lv_at hl 1 rfl) ?_
                  refine lv_bipush (v := 6) hx hb dXM_init_109 (by decide +kernel) ?_
                  refine lv_icmp_ne (tgt := 120) hx hb dXM_init_111 (by decide) (fun hc111 => ?_) (fun hc111 => ?_)
                  · rw [if_neg hc111] at hX
                    unfold bM_init_120 at hX
                    refine lv_iload_n hx hb dXM_init_120 rfl (lv_at hl 1 rfl) ?_
                    refine lv_bipush (v := 7) hx hb dXM_init_121 (by decide +kernel) ?_
                    refine lv_icmp_ne (tgt := 131) hx hb dXM_init_123 (by decide) (fun hc123 => ?_) (fun hc123 => ?_)
                    · rw [if_neg hc123] at hX
                      unfold bM_init_131 at hX
                      refine lv_iload_n hx hb dXM_init_131 rfl (lv_at hl 1 rfl) ?_
                      refine lv_bipush (v := 8) hx hb dXM_init_132 (by decide +kernel) ?_
                      refine lv_icmp_ne (tgt := 142) hx hb dXM_init_134 (by decide) (fun hc134 => ?_) (fun hc134 => ?_)
                      · rw [if_neg hc134] at hX
                        unfold bM_init_142 at hX
                        refine lv_iload_n hx hb dXM_init_142 rfl (lv_at hl 1 rfl) ?_
                        refine lv_bipush (v := 9) hx hb dXM_init_143 (by decide +kernel) ?_
                        refine lv_icmp_ne (tgt := 154) hx hb dXM_init_145 (by decide) (fun hc145 => ?_) (fun hc145 => ?_)
                        · rw [if_neg hc145] at hX
                          unfold bM_init_154 at hX
                          refine lv_iconst (v := 0) hx hb dXM_init_154 (by decide +kernel) ?_
                          unfold bM_init_155 at hX
                          refine va_iast hx hb hK hP hD hS 1 0 rfl rfl hin dXM_init_155 (fun H locs hP hD hS => ?_)
                          have hP : va_P D vwC2 (wdM cI h0 a0 a1 a2 a9 g3 g4 g5 g6 g7 g8 g10 g11 g12 g13 g14 g15 g16 g17 g18 (upd r0 x1.toNatClampNeg 0) r1 r2 r9) H := hP
                          have hD : va_D A (wdM cI h0 a0 a1 a2 a9 g3 g4 g5 g6 g7 g8 g10 g11 g12 g13 g14 g15 g16 g17 g18 (upd r0 x1.toNatClampNeg 0) r1 r2 r9) := hD
                          refine lv_iinc (k := 1) (v := x1 + 1) (lv' := [(1, .int (x1 + 1)), (0, .ref h0)]) hx hb dXM_init_156 hl rfl (bw_inc1 _) (by decide) rfl (fun ls hl => ?_)
                          refine lv_goto (tgt := 43) hx hb dXM_init_159 (by decide) ?_
                          exact ih k (by omega) (by omega) g3 g4 g5 g6 g7 g8 g10 g11 g12 g13 g14 g15 g16 g17 g18 (upd r0 x1.toNatClampNeg 0) r1 r2 r9 (x1 + 1) (bw_nx hi (by omega)) _ _ ls (lv_sub hl [1, 0] rfl) hP hD hS hX
                        · rw [if_pos hc145] at hX
                          unfold bM_init_148 at hX
                          refine lv_sipush (v := 300) hx hb dXM_init_148 (by decide +kernel) ?_
                          refine lv_goto (tgt := 155) hx hb dXM_init_151 (by decide) ?_
                          unfold bM_init_155 at hX
                          refine va_iast hx hb hK hP hD hS 1 0 rfl rfl hin dXM_init_155 (fun H locs hP hD hS => ?_)
                          have hP : va_P D vwC2 (wdM cI h0 a0 a1 a2 a9 g3 g4 g5 g6 g7 g8 g10 g11 g12 g13 g14 g15 g16 g17 g18 (upd r0 x1.toNatClampNeg 300) r1 r2 r9) H := hP
                          have hD : va_D A (wdM cI h0 a0 a1 a2 a9 g3 g4 g5 g6 g7 g8 g10 g11 g12 g13 g14 g15 g16 g17 g18 (upd r0 x1.toNatClampNeg 300) r1 r2 r9) := hD
                          refine lv_iinc (k := 1) (v := x1 + 1) (lv' := [(1, .int (x1 + 1)), (0, .ref h0)]) hx hb dXM_init_156 hl rfl (bw_inc1 _) (by decide) rfl (fun ls hl => ?_)
                          refine lv_goto (tgt := 43) hx hb dXM_init_159 (by decide) ?_
                          exact ih k (by omega) (by omega) g3 g4 g5 g6 g7 g8 g10 g11 g12 g13 g14 g15 g16 g17 g18 (upd r0 x1.toNatClampNeg 300) r1 r2 r9 (x1 + 1) (bw_nx hi (by omega)) _ _ ls (lv_sub hl [1, 0] rfl) hP hD hS hX
                      · rw [if_pos hc134] at hX
                        unfold bM_init_137 at hX
                        refine lv_bipush (v := 50) hx hb dXM_init_137 (by decide +kernel) ?_
                        refine lv_goto (tgt := 155) hx hb dXM_init_139 (by decide) ?_
                        unfold bM_init_155 at hX
                        refine va_iast hx hb hK hP hD hS 1 0 rfl rfl hin dXM_init_155 (fun H locs hP hD hS => ?_)
                        have hP : va_P D vwC2 (wdM cI h0 a0 a1 a2 a9 g3 g4 g5 g6 g7 g8 g10 g11 g12 g13 g14 g15 g16 g17 g18 (upd r0 x1.toNatClampNeg 50) r1 r2 r9) H := hP
                        have hD : va_D A (wdM cI h0 a0 a1 a2 a9 g3 g4 g5 g6 g7 g8 g10 g11 g12 g13 g14 g15 g16 g17 g18 (upd r0 x1.toNatClampNeg 50) r1 r2 r9) := hD
                        refine lv_iinc (k := 1) (v := x1 + 1) (lv' := [(1, .int (x1 + 1)), (0, .ref h0)]) hx hb dXM_init_156 hl rfl (bw_inc1 _) (by decide) rfl (fun ls hl => ?_)
                        refine lv_goto (tgt := 43) hx hb dXM_init_159 (by decide) ?_
                        exact ih k (by omega) (by omega) g3 g4 g5 g6 g7 g8 g10 g11 g12 g13 g14 g15 g16 g17 g18 (upd r0 x1.toNatClampNeg 50) r1 r2 r9 (x1 + 1) (bw_nx hi (by omega)) _ _ ls (lv_sub hl [1, 0] rfl) hP hD hS hX
                    · rw [if_pos hc123] at hX
                      unfold bM_init_126 at hX
                      refine lv_bipush (v := 100) hx hb dXM_init_126 (by decide +kernel) ?_
                      refine lv_goto (tgt := 155) hx hb dXM_init_128 (by decide) ?_
                      unfold bM_init_155 at hX
                      refine va_iast hx hb hK hP hD hS 1 0 rfl rfl hin dXM_init_155 (fun H locs hP hD hS => ?_)
                      have hP : va_P D vwC2 (wdM cI h0 a0 a1 a2 a9 g3 g4 g5 g6 g7 g8 g10 g11 g12 g13 g14 g15 g16 g17 g18 (upd r0 x1.toNatClampNeg 100) r1 r2 r9) H := hP
                      have hD : va_D A (wdM cI h0 a0 a1 a2 a9 g3 g4 g5 g6 g7 g8 g10 g11 g12 g13 g14 g15 g16 g17 g18 (upd r0 x1.toNatClampNeg 100) r1 r2 r9) := hD
                      refine lv_iinc (k := 1) (v := x1 + 1) (lv' := [(1, .int (x1 + 1)), (0, .ref h0)]) hx hb dXM_init_156 hl rfl (bw_inc1 _) (by decide) rfl (fun ls hl => ?_)
                      refine lv_goto (tgt := 43) hx hb dXM_init_159 (by decide) ?_
                      exact ih k (by omega) (by omega) g3 g4 g5 g6 g7 g8 g10 g11 g12 g13 g14 g15 g16 g17 g18 (upd r0 x1.toNatClampNeg 100) r1 r2 r9 (x1 + 1) (bw_nx hi (by omega)) _ _ ls (lv_sub hl [1, 0] rfl) hP hD hS hX
                  · rw [if_pos hc111] at hX
                    unfold bM_init_114 at hX
                    refine lv_sipush (v := (-200)) hx hb dXM_init_114 (by decide +kernel) ?_
                    refine lv_goto (tgt := 155) hx hb dXM_init_117 (by decide) ?_
                    unfold bM_init_155 at hX
                    refine va_iast hx hb hK hP hD hS 1 0 rfl rfl hin dXM_init_155 (fun H locs hP hD hS => ?_)
                    have hP : va_P D vwC2 (wdM cI h0 a0 a1 a2 a9 g3 g4 g5 g6 g7 g8 g10 g11 g12 g13 g14 g15 g16 g17 g18 (upd r0 x1.toNatClampNeg ((-200))) r1 r2 r9) H := hP
                    have hD : va_D A (wdM cI h0 a0 a1 a2 a9 g3 g4 g5 g6 g7 g8 g10 g11 g12 g13 g14 g15 g16 g17 g18 (upd r0 x1.toNatClampNeg ((-200))) r1 r2 r9) := hD
                    refine lv_iinc (k := 1) (v := x1 + 1) (lv' := [(1, .int (x1 + 1)), (0, .ref h0)]) hx hb dXM_init_156 hl rfl (bw_inc1 _) (by decide) rfl (fun ls hl => ?_)
                    refine lv_goto (tgt := 43) hx hb dXM_init_159 (by decide) ?_
                    exact ih k (by omega) (by omega) g3 g4 g5 g6 g7 g8 g10 g11 g12 g13 g14 g15 g16 g17 g18 (upd r0 x1.toNatClampNeg ((-200))) r1 r2 r9 (x1 + 1) (bw_nx hi (by omega)) _ _ ls (lv_sub hl [1, 0] rfl) hP hD hS hX
                · rw [if_pos hc99] at hX
                  unfold bM_init_102 at hX
                  refine lv_sipush (v := 1400) hx hb dXM_init_102 (by decide +kernel) ?_
                  refine lv_goto (tgt := 155) hx hb dXM_init_105 (by decide) ?_
                  unfold bM_init_155 at hX
                  refine va_iast hx hb hK hP hD hS 1 0 rfl rfl hin dXM_init_155 (fun H locs hP hD hS => ?_)
                  have hP : va_P D vwC2 (wdM cI h0 a0 a1 a2 a9 g3 g4 g5 g6 g7 g8 g10 g11 g12 g13 g14 g15 g16 g17 g18 (upd r0 x1.toNatClampNeg 1400) r1 r2 r9) H := hP
                  have hD : va_D A (wdM cI h0 a0 a1 a2 a9 g3 g4 g5 g6 g7 g8 g10 g11 g12 g13 g14 g15 g16 g17 g18 (upd r0 x1.toNatClampNeg 1400) r1 r2 r9) := hD
                  refine lv_iinc (k := 1) (v := x1 + 1) (lv' := [(1, .int (x1 + 1)), (0, .ref h0)]) hx hb dXM_init_156 hl rfl (bw_inc1 _) (by decide) rfl (fun ls hl => ?_)
                  refine lv_goto (tgt := 43) hx hb dXM_init_159 (by decide) ?_
                  exact ih k (by omega) (by omega) g3 g4 g5 g6 g7 g8 g10 g11 g12 g13 g14 g15 g16 g17 g18 (upd r0 x1.toNatClampNeg 1400) r1 r2 r9 (x1 + 1) (bw_nx hi (by omega)) _ _ ls (lv_sub hl [1, 0] rfl) hP hD hS hX
              · rw [if_pos hc88] at hX
                unfold bM_init_91 at hX
                refine lv_sipush (v := 370) hx hb dXM_init_91 (by decide +kernel) ?_
                refine lv_goto (tgt := 155) hx hb dXM_init_94 (by decide) ?_
                unfold bM_init_155 at hX
                refine va_iast hx hb hK hP hD hS 1 0 rfl rfl hin dXM_init_155 (fun H locs hP hD hS => ?_)
                have hP : va_P D vwC2 (wdM cI h0 a0 a1 a2 a9 g3 g4 g5 g6 g7 g8 g10 g11 g12 g13 g14 g15 g16 g17 g18 (upd r0 x1.toNatClampNeg 370) r1 r2 r9) H := hP
                have hD : va_D A (wdM cI h0 a0 a1 a2 a9 g3 g4 g5 g6 g7 g8 g10 g11 g12 g13 g14 g15 g16 g17 g18 (upd r0 x1.toNatClampNeg 370) r1 r2 r9) := hD
                refine lv_iinc (k := 1) (v := x1 + 1) (lv' := [(1, .int (x1 + 1)), (0, .ref h0)]) hx hb dXM_init_156 hl rfl (bw_inc1 _) (by decide) rfl (fun ls hl => ?_)
                refine lv_goto (tgt := 43) hx hb dXM_init_159 (by decide) ?_
                exact ih k (by omega) (by omega) g3 g4 g5 g6 g7 g8 g10 g11 g12 g13 g14 g15 g16 g17 g18 (upd r0 x1.toNatClampNeg 370) r1 r2 r9 (x1 + 1) (bw_nx hi (by omega)) _ _ ls (lv_sub hl [1, 0] rfl) hP hD hS hX
            · rw [if_pos hc77] at hX
              unfold bM_init_80 at hX
              refine lv_sipush (v := 240) hx hb dXM_init_80 (by decide +kernel) ?_
              refine lv_goto (tgt := 155) hx hb dXM_init_83 (by decide) ?_
              unfold bM_init_155 at hX
              refine va_iast hx hb hK hP hD hS 1 0 rfl rfl hin dXM_init_155 (fun H locs hP hD hS => ?_)
              have hP : va_P D vwC2 (wdM cI h0 a0 a1 a2 a9 g3 g4 g5 g6 g7 g8 g10 g11 g12 g13 g14 g15 g16 g17 g18 (upd r0 x1.toNatClampNeg 240) r1 r2 r9) H := hP
              have hD : va_D A (wdM cI h0 a0 a1 a2 a9 g3 g4 g5 g6 g7 g8 g10 g11 g12 g13 g14 g15 g16 g17 g18 (upd r0 x1.toNatClampNeg 240) r1 r2 r9) := hD
              refine lv_iinc (k := 1) (v := x1 + 1) (lv' := [(1, .int (x1 + 1)), (0, .ref h0)]) hx hb dXM_init_156 hl rfl (bw_inc1 _) (by decide) rfl (fun ls hl => ?_)
              refine lv_goto (tgt := 43) hx hb dXM_init_159 (by decide) ?_
              exact ih k (by omega) (by omega) g3 g4 g5 g6 g7 g8 g10 g11 g12 g13 g14 g15 g16 g17 g18 (upd r0 x1.toNatClampNeg 240) r1 r2 r9 (x1 + 1) (bw_nx hi (by omega)) _ _ ls (lv_sub hl [1, 0] rfl) hP hD hS hX
          · rw [if_pos hc66] at hX
            unfold bM_init_69 at hX
            refine lv_sipush (v := 1000) hx hb dXM_init_69 (by decide +kernel) ?_
            refine lv_goto (tgt := 155) hx hb dXM_init_72 (by decide) ?_
            unfold bM_init_155 at hX
            refine va_iast hx hb hK hP hD hS 1 0 rfl rfl hin dXM_init_155 (fun H locs hP hD hS => ?_)
            have hP : va_P D vwC2 (wdM cI h0 a0 a1 a2 a9 g3 g4 g5 g6 g7 g8 g10 g11 g12 g13 g14 g15 g16 g17 g18 (upd r0 x1.toNatClampNeg 1000) r1 r2 r9) H := hP
            have hD : va_D A (wdM cI h0 a0 a1 a2 a9 g3 g4 g5 g6 g7 g8 g10 g11 g12 g13 g14 g15 g16 g17 g18 (upd r0 x1.toNatClampNeg 1000) r1 r2 r9) := hD
            refine lv_iinc (k := 1) (v := x1 + 1) (lv' := [(1, .int (x1 + 1)), (0, .ref h0)]) hx hb dXM_init_156 hl rfl (bw_inc1 _) (by decide) rfl (fun ls hl => ?_)
            refine lv_goto (tgt := 43) hx hb dXM_init_159 (by decide) ?_
            exact ih k (by omega) (by omega) g3 g4 g5 g6 g7 g8 g10 g11 g12 g13 g14 g15 g16 g17 g18 (upd r0 x1.toNatClampNeg 1000) r1 r2 r9 (x1 + 1) (bw_nx hi (by omega)) _ _ ls (lv_sub hl [1, 0] rfl) hP hD hS hX
        · rw [if_pos hc55] at hX
          unfold bM_init_58 at hX
          refine lv_sipush (v := 300) hx hb dXM_init_58 (by decide +kernel) ?_
          refine lv_goto (tgt := 155) hx hb dXM_init_61 (by decide) ?_
          unfold bM_init_155 at hX
          refine va_iast hx hb hK hP hD hS 1 0 rfl rfl hin dXM_init_155 (fun H locs hP hD hS => ?_)
          have hP : va_P D vwC2 (wdM cI h0 a0 a1 a2 a9 g3 g4 g5 g6 g7 g8 g10 g11 g12 g13 g14 g15 g16 g17 g18 (upd r0 x1.toNatClampNeg 300) r1 r2 r9) H := hP
          have hD : va_D A (wdM cI h0 a0 a1 a2 a9 g3 g4 g5 g6 g7 g8 g10 g11 g12 g13 g14 g15 g16 g17 g18 (upd r0 x1.toNatClampNeg 300) r1 r2 r9) := hD
          refine lv_iinc (k := 1) (v := x1 + 1) (lv' := [(1, .int (x1 + 1)), (0, .ref h0)]) hx hb dXM_init_156 hl rfl (bw_inc1 _) (by decide) rfl (fun ls hl => ?_)
          refine lv_goto (tgt := 43) hx hb dXM_init_159 (by decide) ?_
          exact ih k (by omega) (by omega) g3 g4 g5 g6 g7 g8 g10 g11 g12 g13 g14 g15 g16 g17 g18 (upd r0 x1.toNatClampNeg 300) r1 r2 r9 (x1 + 1) (bw_nx hi (by omega)) _ _ ls (lv_sub hl [1, 0] rfl) hP hD hS hX
  refine lv_aload_n hx hb dXM_init_0 rfl (lv_at hl 0 rfl) ?_
  refine W.objInit hx hb hown (htM _ wM_4) (htM _ wM_2) (htM _ wM_103) rfl (by rw [hml]; exact hl.1) rfl dXM_init_1 (Nat.le_of_ble_eq_true rfl) (Nat.le_of_ble_eq_true rfl) ?_
  refine W.eq (g2 := F0 m 4 ls []) rfl ?_
  refine lv_aload_n hx hb dXM_init_4 rfl (lv_at hl 0 rfl) ?_
  refine lv_bipush (v := 10) hx hb dXM_init_5 (by decide +kernel) ?_
  refine va_newa (atype := .int) (N' := 10) (a0 := (10, .inl (fun _ => 0))) (ty := .int) (n := 10) hx hb (htM _ wM_1) rfl hK hP hD hS hA (fun _ => rfl) (by decide) (by decide +kernel) (by decide) (Nat.le_of_ble_eq_true rfl) (Nat.le_of_ble_eq_true rfl) dXM_init_7 (fun a0 cA H hK1 hP hD hS => ?_)
  have ec : cI = cA := (bw_cI hK1).symm
  subst ec
  have hP : va_P D vwC2 [(h0, .inr (1, [.null, .null, .null, .int 0, .int 0, .int 0, .int 0, .int 0, .int 0, .null, .int 0, .int 0, .int 0, .int 0, .int 0, .int 0, .int 0, .int 0, .int 0])), (a0, .inl (cI, 10, .inl (fun _ => 0)))] H := hP
  have hD : va_D A [(h0, .inr (1, [.null, .null, .null, .int 0, .int 0, .int 0, .int 0, .int 0, .int 0, .null, .int 0, .int 0, .int 0, .int 0, .int 0, .int 0, .int 0, .int 0, .int 0])), (a0, .inl (cI, 10, .inl (fun _ => 0)))] := hD
  refine va_putF (D := D) (ci := 1) (v := .ref a0) (ty := (.array .int)) (C := RXM) (T := TXM) (N := 19) hx hb hts hinU tyXM tyXM_ok nmXM hown hK hP hD hS 0 rfl rfl 0 (by decide) (htM _ wM_5) (fun _ h9 => h9) rfl hin9 rfl (by decide +kernel) rfl rfl (Nat.le_of_ble_eq_true rfl) dXM_init_9 (fun H locs hP hD hS => ?_)
  have hP : va_P D vwC2 [(h0, .inr (1, [.ref a0, .null, .null, .int 0, .int 0, .int 0, .int 0, .int 0, .int 0, .null, .int 0, .int 0, .int 0, .int 0, .int 0, .int 0, .int 0, .int 0, .int 0])), (a0, .inl (cI, 10, .inl (fun _ => 0)))] H := hP
  have hD : va_D A [(h0, .inr (1, [.ref a0, .null, .null, .int 0, .int 0, .int 0, .int 0, .int 0, .int 0, .null, .int 0, .int 0, .int 0, .int 0, .int 0, .int 0, .int 0, .int 0, .int 0])), (a0, .inl (cI, 10, .inl (fun _ => 0)))] := hD
  refine lv_aload_n hx hb dXM_init_12 rfl (lv_at hl 0 rfl) ?_
  refine lv_bipush (v := 6) hx hb dXM_init_13 (by decide +kernel) ?_
  refine va_newa (atype := .int) (N' := 6) (a0 := (6, .inl (fun _ => 0))) (ty := .int) (n := 6) hx hb (htM _ wM_1) rfl hK hP hD hS hA (fun _ => rfl) (by decide) (by decide +kernel) (by decide) (Nat.le_of_ble_eq_true rfl) (Nat.le_of_ble_eq_true rfl) dXM_init_15 (fun a1 cA H hK1 hP hD hS => ?_)
  have ec : cI = cA := (bw_cI hK1).symm
  subst ec
  have hP : va_P D vwC2 [(h0, .inr (1, [.ref a0, .null, .null, .int 0, .int 0, .int 0, .int 0, .int 0, .int 0, .null, .int 0, .int 0, .int 0, .int 0, .int 0, .int 0, .int 0, .int 0, .int 0])), (a0, .inl (cI, 10, .inl (fun _ => 0))), (a1, .inl (cI, 6, .inl (fun _ => 0)))] H := hP
  have hD : va_D A [(h0, .inr (1, [.ref a0, .null, .null, .int 0, .int 0, .int 0, .int 0, .int 0, .int 0, .null, .int 0, .int 0, .int 0, .int 0, .int 0, .int 0, .int 0, .int 0, .int 0])), (a0, .inl (cI, 10, .inl (fun _ => 0))), (a1, .inl (cI, 6, .inl (fun _ => 0)))] := hD
  refine va_putF (D := D) (ci := 1) (v := .ref a1) (ty := (.array .int)) (C := RXM) (T := TXM) (N := 19) hx hb hts hinU tyXM tyXM_ok nmXM hown hK hP hD hS 0 rfl rfl 1 (by decide) (htM _ wM_6) (fun _ h9 => h9) rfl hin9 rfl (by decide +kernel) rfl rfl (Nat.le_of_ble_eq_true rfl) dXM_init_17 (fun H locs hP hD hS => ?_)
  have hP : va_P D vwC2 [(h0, .inr (1, [.ref a0, .ref a1, .null, .int 0, .int 0, .int 0, .int 0, .int 0, .int 0, .null, .int 0, .int 0, .int 0, .int 0, .int 0, .int 0, .int 0, .int 0, .int 0])), (a0, .inl (cI, 10, .inl (fun _ => 0))), (a1, .inl (cI, 6, .inl (fun _ => 0)))] H := hP
  have hD : va_D A [(h0, .inr (1, [.ref a0, .ref a1, .null, .int 0, .int 0, .int 0, .int 0, .int 0, .int 0, .null, .int 0, .int 0, .int 0, .int 0, .int 0, .int 0, .int 0, .int 0, .int 0])), (a0, .inl (cI, 10, .inl (fun _ => 0))), (a1, .inl (cI, 6, .inl (fun _ => 0)))] := hD
  refine lv_aload_n hx hb dXM_init_20 rfl (lv_at hl 0 rfl) ?_
  refine lv_bipush (v := 6) hx hb dXM_init_21 (by decide +kernel) ?_
  refine va_newa (atype := .int) (N' := 6) (a0 := (6, .inl (fun _ => 0))) (ty := .int) (n := 6) hx hb (htM _ wM_1) rfl hK hP hD hS hA (fun _ => rfl) (by decide) (by decide +kernel) (by decide) (Nat.le_of_ble_eq_true rfl) (Nat.le_of_ble_eq_true rfl) dXM_init_23 (fun a2 cA H hK1 hP hD hS => ?_)
  have ec : cI = cA := (bw_cI hK1).symm
  subst ec
  have hP : va_P D vwC2 [(h0, .inr (1, [.ref a0, .ref a1, .null, .int 0, .int 0, .int 0, .int 0, .int 0, .int 0, .null, .int 0, .int 0, .int 0, .int 0, .int 0, .int 0, .int 0, .int 0, .int 0])), (a0, .inl (cI, 10, .inl (fun _ => 0))), (a1, .inl (cI, 6, .inl (fun _ => 0))), (a2, .inl (cI, 6, .inl (fun _ => 0)))] H := hP
  have hD : va_D A [(h0, .inr (1, [.ref a0, .ref a1, .null, .int 0, .int 0, .int 0, .int 0, .int 0, .int 0, .null, .int 0, .int 0, .int 0, .int 0, .int 0, .int 0, .int 0, .int 0, .int 0])), (a0, .inl (cI, 10, .inl (fun _ => 0))), (a1, .inl (cI, 6, .inl (fun _ => 0))), (a2, .inl (cI, 6, .inl (fun _ => 0)))] := hD
  refine va_putF (D := D) (ci := 1) (v := .ref a2) (ty := (.array .int)) (C := RXM) (T := TXM) (N := 19) hx hb hts hinU tyXM tyXM_ok nmXM hown hK hP hD hS 0 rfl rfl 2 (by decide) (htM _ wM_7) (fun _ h9 => h9) rfl hin9 rfl (by decide +kernel) rfl rfl (Nat.le_of_ble_eq_true rfl) dXM_init_25 (fun H locs hP hD hS => ?_)
  have hP : va_P D vwC2 [(h0, .inr (1, [.ref a0, .ref a1, .ref a2, .int 0, .int 0, .int 0, .int 0, .int 0, .int 0, .null, .int 0, .int 0, .int 0, .int 0, .int 0, .int 0, .int 0, .int 0, .int 0])), (a0, .inl (cI, 10, .inl (fun _ => 0))), (a1, .inl (cI, 6, .inl (fun _ => 0))), (a2, .inl (cI, 6, .inl (fun _ => 0)))] H := hP
  have hD : va_D A [(h0, .inr (1, [.ref a0, .ref a1, .ref a2, .int 0, .int 0, .int 0, .int 0, .int 0, .int 0, .null, .int 0, .int 0, .int 0, .int 0, .int 0, .int 0, .int 0, .int 0, .int 0])), (a0, .inl (cI, 10, .inl (fun _ => 0))), (a1, .inl (cI, 6, .inl (fun _ => 0))), (a2, .inl (cI, 6, .inl (fun _ => 0)))] := hD
  refine lv_aload_n hx hb dXM_init_28 rfl (lv_at hl 0 rfl) ?_
  refine lv_iconst (v := (-1)) hx hb dXM_init_29 (by decide +kernel) ?_
  refine va_put (D := D) (ci := 1) (v := .int (-1)) (ty := .int) (C := RXM) (T := TXM) (N := 19) hx hb hts hinU tyXM tyXM_ok nmXM hown hK hP hD hS 0 rfl rfl 7 (by decide) (htM _ wM_12) (fun _ h9 => h9) rfl (by decide +kernel) rfl rfl (Nat.le_of_ble_eq_true rfl) dXM_init_30 (fun H locs hP hD hS => ?_)
  have hP : va_P D vwC2 [(h0, .inr (1, [.ref a0, .ref a1, .ref a2, .int 0, .int 0, .int 0, .int 0, .int (-1), .int 0, .null, .int 0, .int 0, .int 0, .int 0, .int 0, .int 0, .int 0, .int 0, .int 0])), (a0, .inl (cI, 10, .inl (fun _ => 0))), (a1, .inl (cI, 6, .inl (fun _ => 0))), (a2, .inl (cI, 6, .inl (fun _ => 0)))] H := hP
  have hD : va_D A [(h0, .inr (1, [.ref a0, .ref a1, .ref a2, .int 0, .int 0, .int 0, .int 0, .int (-1), .int 0, .null, .int 0, .int 0, .int 0, .int 0, .int 0, .int 0, .int 0, .int 0, .int 0])), (a0, .inl (cI, 10, .inl (fun _ => 0))), (a1, .inl (cI, 6, .inl (fun _ => 0))), (a2, .inl (cI, 6, .inl (fun _ => 0)))] := hD
  refine lv_aload_n hx hb dXM_init_33 rfl (lv_at hl 0 rfl) ?_
  refine lv_bipush (v := 6) hx hb dXM_init_34 (by decide +kernel) ?_
  refine va_newa (atype := .int) (N' := 6) (a0 := (6, .inl (fun _ => 0))) (ty := .int) (n := 6) hx hb (htM _ wM_1) rfl hK hP hD hS hA (fun _ => rfl) (by decide) (by decide +kernel) (by decide) (Nat.le_of_ble_eq_true rfl) (Nat.le_of_ble_eq_true rfl) dXM_init_36 (fun a9 cA H hK1 hP hD hS => ?_)
  have ec : cI = cA := (bw_cI hK1).symm
  subst ec
  have hP : va_P D vwC2 [(h0, .inr (1, [.ref a0, .ref a1, .ref a2, .int 0, .int 0, .int 0, .int 0, .int (-1), .int 0, .null, .int 0, .int 0, .int 0, .int 0, .int 0, .int 0, .int 0, .int 0, .int 0])), (a0, .inl (cI, 10, .inl (fun _ => 0))), (a1, .inl (cI, 6, .inl (fun _ => 0))), (a2, .inl (cI, 6, .inl (fun _ => 0))), (a9, .inl (cI, 6, .inl (fun _ => 0)))] H := hP
  have hD : va_D A [(h0, .inr (1, [.ref a0, .ref a1, .ref a2, .int 0, .int 0, .int 0, .int 0, .int (-1), .int 0, .null, .int 0, .int 0, .int 0, .int 0, .int 0, .int 0, .int 0, .int 0, .int 0])), (a0, .inl (cI, 10, .inl (fun _ => 0))), (a1, .inl (cI, 6, .inl (fun _ => 0))), (a2, .inl (cI, 6, .inl (fun _ => 0))), (a9, .inl (cI, 6, .inl (fun _ => 0)))] := hD
  refine va_putF (D := D) (ci := 1) (v := .ref a9) (ty := (.array .int)) (C := RXM) (T := TXM) (N := 19) hx hb hts hinU tyXM tyXM_ok nmXM hown hK hP hD hS 0 rfl rfl 9 (by decide) (htM _ wM_14) (fun _ h9 => h9) rfl hin9 rfl (by decide +kernel) rfl rfl (Nat.le_of_ble_eq_true rfl) dXM_init_38 (fun H locs hP hD hS => ?_)
  have hP : va_P D vwC2 [(h0, .inr (1, [.ref a0, .ref a1, .ref a2, .int 0, .int 0, .int 0, .int 0, .int (-1), .int 0, .ref a9, .int 0, .int 0, .int 0, .int 0, .int 0, .int 0, .int 0, .int 0, .int 0])), (a0, .inl (cI, 10, .inl (fun _ => 0))), (a1, .inl (cI, 6, .inl (fun _ => 0))), (a2, .inl (cI, 6, .inl (fun _ => 0))), (a9, .inl (cI, 6, .inl (fun _ => 0)))] H := hP
  have hD : va_D A [(h0, .inr (1, [.ref a0, .ref a1, .ref a2, .int 0, .int 0, .int 0, .int 0, .int (-1), .int 0, .ref a9, .int 0, .int 0, .int 0, .int 0, .int 0, .int 0, .int 0, .int 0, .int 0])), (a0, .inl (cI, 10, .inl (fun _ => 0))), (a1, .inl (cI, 6, .inl (fun _ => 0))), (a2, .inl (cI, 6, .inl (fun _ => 0))), (a9, .inl (cI, 6, .inl (fun _ => 0)))] := hD
  refine W.widen (k := 4) (n := 28) (by decide) (by decide) ?_
  have hP : va_P D vwC2 (wdM cI h0 a0 a1 a2 a9 0 0 0 0 (-1) 0 0 0 0 0 0 0 0 0 0 (fun _ => 0) (fun _ => 0) (fun _ => 0) (fun _ => 0)) H := hP
  have hD : va_D A (wdM cI h0 a0 a1 a2 a9 0 0 0 0 (-1) 0 0 0 0 0 0 0 0 0 0 (fun _ => 0) (fun _ => 0) (fun _ => 0) (fun _ => 0)) := hD
  unfold sM_init bM_init_41 at hX
  refine lv_iconst (v := 0) hx hb dXM_init_41 (by decide +kernel) ?_
  refine lv_istore_n (lv' := [(1, .int 0), (0, .ref h0)]) hx hb dXM_init_42 rfl hl (by decide) rfl (fun ls hl => ?_)
  exact JH43 a0 a1 a2 a9 11 10 (by omega) (by omega) 0 0 0 0 ((-1)) 0 0 0 0 0 0 0 0 0 0 ((fun _ => 0)) ((fun _ => 0)) ((fun _ => 0)) ((fun _ => 0)) 0 (by decide +kernel) _ _ ls (lv_sub hl [1, 0] rfl) hP hD hS hX
