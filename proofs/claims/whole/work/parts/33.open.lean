set_option maxHeartbeats 4000000 in
set_option maxRecDepth 100000 in
theorem whole_open {p : Program} {e : Env} {s : State} {m : MethodId} {below : List Frame} {meth : Method} {c : Code} (l : Launch) {b L : Nat} {xs : Nat → Int32} (hL : L ≤ 1536) (C0 : lw_At p s m meth c b L xs) (hO : lw_more.before #[Value.ref b] s = true) : W p l e room_1 s m #[Value.ref b] below meth c s.heap [] 0 0 (lw_Z below #[Value.ref b] s) (entryFrame m ([Value.ref b] : List Value).toArray 4) := by
  obtain ⟨hx, hb, hr, hml, hown, hts0, hXs, hbl, hlocks, hgv⟩ := C0
  have hown : s.vm.findClass RL = some m.cls := hown
  have hb : c.code = cL_law := hb
  have hts : ∀ w ∈ wsL_law, w.before #[Value.ref b] s = true := fun w h => hts0 w (wsL_law_in w h)
  have hg := flat_of_before _ hgv
  obtain ⟨cI, kA, comp, hcI, hkA, hkind⟩ := Cond.arrayClass_spec (hts (.arrayClass .int) (by decide +kernel))
  have hcI2 : s.vm.findClass "[I" = some cI := va_nm_int hcI
  obtain ⟨cX, iX, hKX⟩ := u_known (C := RX0) (T := TX0) (N := 18) (n := 18) hts0 inX0 (hts (.instantiable RX0 18) (by decide +kernel))
  obtain ⟨cM, iM, hKM⟩ := u_known (C := RXM) (T := TXM) (N := 19) (n := 19) hts0 wsMf_in (hts0 (.instantiable RXM 19) (by decide +kernel))
  obtain ⟨D, hK⟩ : ∃ D : va_G, va_K D vwC2 [(cI, .int)] s := by
    refine ⟨(fun c => if c = 0 then cX else cM, fun c => if c = 0 then iX else iM), ?_, ?_⟩
    · intro c q hq
      match c, hq with
      | 0, hq => cases hq; exact hKX
      | 1, hq => cases hq; exact hKM
      | n + 2, hq => cases hq
    · intro k q hk
      match k, hk with
      | 0, hk => cases hk; exact ⟨fun n z => ⟨fun _ h => (by cases h), kA, hkA, comp, hkind⟩, hcI⟩
      | n + 1, hk => cases hk
  obtain ⟨A, hAe⟩ : ∃ A : Nat → Prop, A = fun q => s.heap.size ≤ q := ⟨_, rfl⟩
  have hA : ∀ q : Nat, s.heap.size ≤ q → A q := fun q h => by rw [hAe]; exact h
  have hnA : ∀ a : Nat, a < s.heap.size → ¬ A a := fun a h => by rw [hAe]; exact Nat.not_le.mpr h
  have hbA : ¬ A b := hnA b hbl
  have hAs : ∀ q : Nat, A q → s.heap.size ≤ q := fun q h => by rw [hAe] at h; exact h
  have hS : va_S A s.heap s.heap [] := va_S.rf
  have hP : va_P D vwC2 [] s.heap := fun k q hk => by cases hk
  have hD : va_D A [] := ⟨fun i j x y h => (by cases h), fun k q h => (by cases h)⟩
  have hT : tbX A s := ⟨tb_of (nm := "PARAMETER_LEAST") (N := 10) (f := tPL) (by decide) (hts0 (.laysStatic RX0 "PARAMETER_LEAST" "[I") (by decide +kernel)) (hts0 (.initialized RX0) (by decide +kernel)) (hg (.arrayOf (.static RX0 "PARAMETER_LEAST" "[I") .int) (by decide +kernel)) (hg (.eq (.length (.static RX0 "PARAMETER_LEAST" "[I")) (.int (Int32.ofNat 10))) (by decide +kernel)) (fun j hj => hg _ ((show ∀ j, j < 10 → Cond.eq (.elem (.static RX0 "PARAMETER_LEAST" "[I") (.int (Int32.ofNat j))) (.int (tPL j)) ∈ flatC (Jvm.Cond.and given_1 narrow_1) by decide +kernel) j hj)) hnA, tb_of (nm := "PARAMETER_GREATEST") (N := 10) (f := tPG) (by decide) (hts0 (.laysStatic RX0 "PARAMETER_GREATEST" "[I") (by decide +kernel)) (hts0 (.initialized RX0) (by decide +kernel)) (hg (.arrayOf (.static RX0 "PARAMETER_GREATEST" "[I") .int) (by decide +kernel)) (hg (.eq (.length (.static RX0 "PARAMETER_GREATEST" "[I")) (.int (Int32.ofNat 10))) (by decide +kernel)) (fun j hj => hg _ ((show ∀ j, j < 10 → Cond.eq (.elem (.static RX0 "PARAMETER_GREATEST" "[I") (.int (Int32.ofNat j))) (.int (tPG j)) ∈ flatC (Jvm.Cond.and given_1 narrow_1) by decide +kernel) j hj)) hnA, tb_of (nm := "SENSOR_LEAST") (N := 6) (f := tSL) (by decide) (hts0 (.laysStatic RX0 "SENSOR_LEAST" "[I") (by decide +kernel)) (hts0 (.initialized RX0) (by decide +kernel)) (hg (.arrayOf (.static RX0 "SENSOR_LEAST" "[I") .int) (by decide +kernel)) (hg (.eq (.length (.static RX0 "SENSOR_LEAST" "[I")) (.int (Int32.ofNat 6))) (by decide +kernel)) (fun j hj => hg _ ((show ∀ j, j < 6 → Cond.eq (.elem (.static RX0 "SENSOR_LEAST" "[I") (.int (Int32.ofNat j))) (.int (tSL j)) ∈ flatC (Jvm.Cond.and given_1 narrow_1) by decide +kernel) j hj)) hnA, tb_of (nm := "SENSOR_GREATEST") (N := 6) (f := tSG) (by decide) (hts0 (.laysStatic RX0 "SENSOR_GREATEST" "[I") (by decide +kernel)) (hts0 (.initialized RX0) (by decide +kernel)) (hg (.arrayOf (.static RX0 "SENSOR_GREATEST" "[I") .int) (by decide +kernel)) (hg (.eq (.length (.static RX0 "SENSOR_GREATEST" "[I")) (.int (Int32.ofNat 6))) (by decide +kernel)) (fun j hj => hg _ ((show ∀ j, j < 6 → Cond.eq (.elem (.static RX0 "SENSOR_GREATEST" "[I") (.int (Int32.ofNat j))) (.int (tSG j)) ∈ flatC (Jvm.Cond.and given_1 narrow_1) by decide +kernel) j hj)) hnA⟩
  have hI0 : tiX A cI s := ⟨te_of (nm := "PARAMETER_AT_FIRST") (N := 10) (f := tPF) (by decide) (hts0 (.laysStatic RX0 "PARAMETER_AT_FIRST" "[I") (by decide +kernel)) (hts0 (.initialized RX0) (by decide +kernel)) (hg (.arrayOf (.static RX0 "PARAMETER_AT_FIRST" "[I") .int) (by decide +kernel)) (hg (.eq (.length (.static RX0 "PARAMETER_AT_FIRST" "[I")) (.int (Int32.ofNat 10))) (by decide +kernel)) (fun j hj => hg _ ((show ∀ j, j < 10 → Cond.eq (.elem (.static RX0 "PARAMETER_AT_FIRST" "[I") (.int (Int32.ofNat j))) (.int (tPF j)) ∈ flatC (Jvm.Cond.and given_1 narrow_1) by decide +kernel) j hj)) hnA (fun t cell h1 h2 => lw_more_cls hO "PARAMETER_AT_FIRST" (Or.inl rfl) t cell cI h1 h2 hcI2), te_of (nm := "SENSOR_AT_FIRST") (N := 6) (f := tSF) (by decide) (hts0 (.laysStatic RX0 "SENSOR_AT_FIRST" "[I") (by decide +kernel)) (hts0 (.initialized RX0) (by decide +kernel)) (hg (.arrayOf (.static RX0 "SENSOR_AT_FIRST" "[I") .int) (by decide +kernel)) (hg (.eq (.length (.static RX0 "SENSOR_AT_FIRST" "[I")) (.int (Int32.ofNat 6))) (by decide +kernel)) (fun j hj => hg _ ((show ∀ j, j < 6 → Cond.eq (.elem (.static RX0 "SENSOR_AT_FIRST" "[I") (.int (Int32.ofNat j))) (.int (tSF j)) ∈ flatC (Jvm.Cond.and given_1 narrow_1) by decide +kernel) j hj)) hnA (fun t cell h1 h2 => lw_more_cls hO "SENSOR_AT_FIRST" (Or.inr rfl) t cell cI h1 h2 hcI2), va_Nw.of rfl (hts0 (.castable "[I" "java/lang/Cloneable") (by decide +kernel))⟩
  have hl := lv_entry ([.ref b]) (n := 4) (Nat.le_of_ble_eq_true rfl)
  rw [lg_entry_eq]
  generalize (lg_sl ([.ref b]) ++ List.replicate (4 - (lg_sl ([.ref b])).length) Slot.unset).toArray = ls at hl ⊢
  have hl : lv_has ls 4 [(0, .ref b)] := hl
  refine va_new (ci := 0) (fs := [.null, .null, .null, .null, .int 0, .int 0, .int 0, .int 0, .int 0, .int 0, .int 0, .int 0, .int 0, .int 0, .int 0, .int 0, .int 0, .int 0]) (C := RX0) (T := TX0) (N := 18) hx hb hts0 inX0 tyX0 tyX0_ok hown (hts (.classLink RL 7 RX0) (by decide +kernel)) (hts (.instantiable RX0 18) (by decide +kernel)) (hts (.initialized RX0) (by decide +kernel)) hK hP hD hS hA rfl (fun j hj => by rcases (show j = 0 ∨ j = 1 ∨ j = 2 ∨ j = 3 ∨ j = 4 ∨ j = 5 ∨ j = 6 ∨ j = 7 ∨ j = 8 ∨ j = 9 ∨ j = 10 ∨ j = 11 ∨ j = 12 ∨ j = 13 ∨ j = 14 ∨ j = 15 ∨ j = 16 ∨ j = 17 by omega) with rfl | rfl | rfl | rfl | rfl | rfl | rfl | rfl | rfl | rfl | rfl | rfl | rfl | rfl | rfl | rfl | rfl | rfl <;> rfl) (Nat.le_of_ble_eq_true rfl) (Nat.le_of_ble_eq_true rfl) dL_law_0 (fun hX H hP hD hS => ?_)
  refine lv_dup hx hb dL_law_3 rfl ?_
  refine bw_Iv (wr := []) (w := [(hX, .inr (0, [.null, .null, .null, .null, .int 0, .int 0, .int 0, .int 0, .int 0, .int 0, .int 0, .int 0, .int 0, .int 0, .int 0, .int 0, .int 0, .int 0]))]) (As := []) (rest := [.ref hX]) ⟨hx, hb, hml, hown, hts⟩ (ctX_init l D cI hX _) (cwI 0 hts gL_law_X0_init rfl rfl rfl (hts (.initialized RX0) (by decide +kernel)) (hts (.methodLink RL 9 yX0_init) (by decide +kernel)) (hts (.instanceMethod yX0_init) (by decide +kernel)) rfl (by decide +kernel) ⟨Nat.le_of_ble_eq_true rfl, Nat.le_of_ble_eq_true rfl⟩) hK hP hD hS hA tiX_bl (tiX_to hI0 hS (bw_free (wr := []) hD hS hA)) rfl hl.1 rfl (Nat.le_of_ble_eq_true rfl) dL_law_4 ⟨Nat.le_of_ble_eq_true rfl, Nat.le_of_ble_eq_true rfl⟩ (fun u H locs hu hP hD hS => ?_)
  obtain ⟨⟨a0, a1, a2, a3⟩, x⟩ := u
  have hu : x = sX_init := hu
  subst hu
  have hP : va_P D vwC2 (wfX cI hX a0 a1 a2 a3 sX_init) H := hP
  have hD : va_D A (wfX cI hX a0 a1 a2 a3 sX_init) := hD
  refine lv_astore_n (lv' := [(1, .ref hX), (0, .ref b)]) hx hb dL_law_7 rfl hl (by decide) rfl (fun ls hl => ?_)
  refine va_new (ci := 1) (fs := [.null, .null, .null, .int 0, .int 0, .int 0, .int 0, .int 0, .int 0, .null, .int 0, .int 0, .int 0, .int 0, .int 0, .int 0, .int 0, .int 0, .int 0]) (C := RXM) (T := TXM) (N := 19) hx hb hts0 wsMf_in tyXM tyXM_ok hown (hts0 (.classLink RL 10 RXM) (by decide +kernel)) (hts0 (.instantiable RXM 19) (by decide +kernel)) (hts0 (.initialized RXM) (by decide +kernel)) hK hP hD hS hA rfl (fun j hj => by rcases (show j = 0 ∨ j = 1 ∨ j = 2 ∨ j = 3 ∨ j = 4 ∨ j = 5 ∨ j = 6 ∨ j = 7 ∨ j = 8 ∨ j = 9 ∨ j = 10 ∨ j = 11 ∨ j = 12 ∨ j = 13 ∨ j = 14 ∨ j = 15 ∨ j = 16 ∨ j = 17 ∨ j = 18 by omega) with rfl | rfl | rfl | rfl | rfl | rfl | rfl | rfl | rfl | rfl | rfl | rfl | rfl | rfl | rfl | rfl | rfl | rfl | rfl <;> rfl) (Nat.le_of_ble_eq_true rfl) (Nat.le_of_ble_eq_true rfl) dL_law_8 (fun hM H hP hD hS => ?_)
  refine lv_dup hx hb dL_law_11 rfl ?_
  refine bw_Iv (wr := wfX cI hX a0 a1 a2 a3 sX_init) (w := [(hM, .inr (1, [.null, .null, .null, .int 0, .int 0, .int 0, .int 0, .int 0, .int 0, .null, .int 0, .int 0, .int 0, .int 0, .int 0, .int 0, .int 0, .int 0, .int 0]))]) (As := []) (rest := [.ref hM]) ⟨hx, hb, hml, hown, hts0⟩ (ctM_init l D cI hM _) (cwI 0 hts0 gL_law_XM_init rfl rfl rfl (hts0 (.initialized RXM) (by decide +kernel)) (hts0 (.methodLink RL 12 yXM_init) (by decide +kernel)) (hts0 (.instanceMethod yXM_init) (by decide +kernel)) rfl (by decide +kernel) ⟨Nat.le_of_ble_eq_true rfl, Nat.le_of_ble_eq_true rfl⟩) hK hP hD hS hA (fun _ _ _ _ h => h) (fun _ _ _ => trivial) rfl hl.1 rfl (Nat.le_of_ble_eq_true rfl) dL_law_12 ⟨Nat.le_of_ble_eq_true rfl, Nat.le_of_ble_eq_true rfl⟩ (fun u H locs hu hP hD hS => ?_)
  obtain ⟨⟨b0, b1, b2, b9⟩, y⟩ := u
  have hu : y = sM_init := hu
  subst hu
  replace hP := bw_swP hP
  replace hD := bw_swD hD
  have hP : va_P D vwC2 (wfM cI hM b0 b1 b2 b9 sM_init ++ wfX cI hX a0 a1 a2 a3 sX_init) H := hP
  have hD : va_D A (wfM cI hM b0 b1 b2 b9 sM_init ++ wfX cI hX a0 a1 a2 a3 sX_init) := hD
  rw [sM_init_eq] at hP hD
  refine lv_astore_n (lv' := [(2, .ref hM), (1, .ref hX), (0, .ref b)]) hx hb dL_law_15 rfl hl (by decide) rfl (fun ls hl => ?_)
  refine lv_iconst (v := 0) hx hb dL_law_16 (by decide +kernel) ?_
  refine lv_istore_n (lv' := [(3, .int 0), (2, .ref hM), (1, .ref hX), (0, .ref b)]) hx hb dL_law_17 rfl hl (by decide) rfl (fun ls hl => ?_)
  refine W.widen (k := 10) (n := 93) (by decide) (by decide) ?_
  have hR0 := ini_rel
  have hV0 := ini_inv
  rw [sM_init_eq] at hR0 hV0
  have JH : ∀ (f t : Nat), L < 3 * t + 3 * f → 3 * t ≤ L → ∀ (g4 g5 g6 g7 g8 g9 g10 g11 g12 g13 g14 g15 g16 g17 : Int32) (r0 r1 r2 r3 : Nat → Int32) (p3 p4 p5 p6 p7 p8 p10 p11 p12 p13 p14 p15 p16 p17 p18 : Int32) (v0 v1 v2 v9 : Nat → Int32) (x3 : Int32), x3 = nI (3 * t) → rel (g4, g5, g6, g7, g8, g9, g10, g11, g12, g13, g14, g15, g16, g17, r0, r1, r2, r3) (p3, p4, p5, p6, p7, p8, p10, p11, p12, p13, p14, p15, p16, p17, p18, v0, v1, v2, v9) → inv (600 * t) (p3, p4, p5, p6, p7, p8, p10, p11, p12, p13, p14, p15, p16, p17, p18, v0, v1, v2, v9) → ∀ (H : Heap) (locs : List Loc) (ls : Array Slot), lv_has ls 4 [(3, .int x3), (2, .ref hM), (1, .ref hX), (0, .ref b)] → va_P D vwC2 (wdM cI hM b0 b1 b2 b9 p3 p4 p5 p6 p7 p8 p10 p11 p12 p13 p14 p15 p16 p17 p18 v0 v1 v2 v9 ++ wdX cI hX a0 a1 a2 a3 g4 g5 g6 g7 g8 g9 g10 g11 g12 g13 g14 g15 g16 g17 r0 r1 r2 r3) H → va_D A (wdM cI hM b0 b1 b2 b9 p3 p4 p5 p6 p7 p8 p10 p11 p12 p13 p14 p15 p16 p17 p18 v0 v1 v2 v9 ++ wdX cI hX a0 a1 a2 a3 g4 g5 g6 g7 g8 g9 g10 g11 g12 g13 g14 g15 g16 g17 r0 r1 r2 r3) → va_S A s.heap H locs → W p l e room_1 s m #[Value.ref b] below meth c H locs 10 93 (lw_Z below #[Value.ref b] s) (F0 m 18 ls []) := by
    intro f
    induction f with
    | zero => intro t h1 h2; omega
    | succ f ih =>
      intro t ht1 ht2 g4 g5 g6 g7 g8 g9 g10 g11 g12 g13 g14 g15 g16 g17 r0 r1 r2 r3 p3 p4 p5 p6 p7 p8 p10 p11 p12 p13 p14 p15 p16 p17 p18 v0 v1 v2 v9 x3 hi hR hI H locs ls hl hP hD hS
      have hN : 600 * t < 390000 := by omega
      refine lv_iload_n hx hb dL_law_18 rfl (lv_at hl 0 rfl) ?_
      refine lv_aload_n hx hb dL_law_19 rfl (lv_at hl 3 rfl) ?_
      refine va_slen hx hb hXs hbl hbA hS dL_law_20 ?_
      refine lv_iconst (v := 3) hx hb dL_law_21 (by decide +kernel) ?_
      refine lv_isub hx hb dL_law_22 ?_
      have hlen : (Int32.ofNat L - 3).toInt = (L : Int) - 3 := pk_sub_toInt (a := L) (b := 3) (by omega) (by decide)
      have h3t : x3.toInt = (3 * t : Nat) := by rw [hi]; exact nI_toInt (by omega)
      refine lv_icmp_gt (tgt := 467) hx hb dL_law_23 (by decide) (fun hc => ?_) (fun hc => ?_)
      · refine lv_iconst (v := 1) hx hb dL_law_467 (by decide +kernel) ?_
        refine va_forget (fun q hq => hAs _ (hS.2.2 q hq)) ?_
        refine W.widen (k := 600000) (n := 7302250) (by decide) (by decide) ?_
        exact lw_ret hx hb hr hlocks dL_law_468
      rw [i_lt, hlen, h3t] at hc
      have ht3 : 3 * t + 3 ≤ L := by omega
      have c0 : x3.toNatClampNeg = 3 * t := by rw [hi]; exact nI_clamp (by omega)
      have c1 : (x3 + 1).toNatClampNeg = 3 * t + 1 := by rw [hi, nI_1]; exact nI_clamp (by omega)
      have c2 : (x3 + 2).toNatClampNeg = 3 * t + 2 := by rw [hi, show (2 : Int32) = nI 2 from rfl, nI_add]; exact nI_clamp (by omega)
      have n0 : vp_in x3 L := by rw [hi]; exact vp_in_nI (by omega) (by omega)
      have n1 : vp_in (x3 + 1) L := by rw [hi, nI_1]; exact vp_in_nI (by omega) (by omega)
      have n2 : vp_in (x3 + 2) L := by rw [hi, show (2 : Int32) = nI 2 from rfl, nI_add]; exact vp_in_nI (by omega) (by omega)
      have hi3 : x3 + 3 = nI (3 * (t + 1)) := by rw [hi, show (3 : Int32) = nI 3 from rfl, nI_add]; rfl
      have J461 : ∀ (x : SX) (y : SM), rel x y → inv (600 * t + 600) y → ∀ (H : Heap) (locs : List Loc), va_P D vwC2 (wfM cI hM b0 b1 b2 b9 y ++ wfX cI hX a0 a1 a2 a3 x) H → va_D A (wfM cI hM b0 b1 b2 b9 y ++ wfX cI hX a0 a1 a2 a3 x) → va_S A s.heap H locs → W p l e room_1 s m #[Value.ref b] below meth c H locs 10 93 (lw_Z below #[Value.ref b] s) (F0 m 461 ls []) := by
        intro x y hR hI H locs hP hD hS
        obtain ⟨g4, g5, g6, g7, g8, g9, g10, g11, g12, g13, g14, g15, g16, g17, r0, r1, r2, r3⟩ := x
        obtain ⟨p3, p4, p5, p6, p7, p8, p10, p11, p12, p13, p14, p15, p16, p17, p18, v0, v1, v2, v9⟩ := y
        refine lv_iinc (k := 0) (v := x3 + 3) (lv' := [(3, .int (x3 + 3)), (2, .ref hM), (1, .ref hX), (0, .ref b)]) hx hb dL_law_461 hl rfl (by rw [show Int32.ofInt 3 = (3 : Int32) from by decide +kernel]) (by decide) rfl (fun ls hl => ?_)
        refine lv_goto (tgt := 18) hx hb dL_law_464 (by decide) ?_
        exact ih (t + 1) (by omega) (by omega) g4 g5 g6 g7 g8 g9 g10 g11 g12 g13 g14 g15 g16 g17 r0 r1 r2 r3 p3 p4 p5 p6 p7 p8 p10 p11 p12 p13 p14 p15 p16 p17 p18 v0 v1 v2 v9 (x3 + 3) hi3 hR hI H locs ls hl hP hD hS
      refine lv_aload_n hx hb dL_law_26 rfl (lv_at hl 3 rfl) ?_
      refine lv_iload_n hx hb dL_law_27 rfl (lv_at hl 0 rfl) ?_
      refine va_sld hx hb hXs hbl hbA hS n0 dL_law_28 ?_
      refine lv_bipush (v := 31) hx hb dL_law_29 (by decide +kernel) ?_
      refine lv_iand hx hb dL_law_31 ?_
      refine lv_topi (fun z hz => ?_)
      by_cases hs0 : z = 0
      · refine lv_tableIn (off := 92) (tgt := 124) hx hb dL_law_32 (by rw [hs0]; decide) (by rw [hs0]; decide) (by rw [hs0]; decide +kernel) (by decide) ?_
        refine lv_aload_n hx hb dL_law_124 rfl (lv_at hl 2 rfl) ?_
        refine lv_aload_n hx hb dL_law_125 rfl (lv_at hl 3 rfl) ?_
        refine lv_iload_n hx hb dL_law_126 rfl (lv_at hl 0 rfl) ?_
        refine lv_iconst (v := 1) hx hb dL_law_127 (by decide +kernel) ?_
        refine lv_iadd hx hb dL_law_128 ?_
        refine va_sld hx hb hXs hbl hbA hS n1 dL_law_129 ?_
        refine lv_aload_n hx hb dL_law_130 rfl (lv_at hl 3 rfl) ?_
        refine lv_iload_n hx hb dL_law_131 rfl (lv_at hl 0 rfl) ?_
        refine lv_iconst (v := 2) hx hb dL_law_132 (by decide +kernel) ?_
        refine lv_iadd hx hb dL_law_133 ?_
        refine va_sld hx hb hXs hbl hbA hS n2 dL_law_134 ?_
        refine bw_Vi (w := wdX cI hX a0 a1 a2 a3 g4 g5 g6 g7 g8 g9 g10 g11 g12 g13 g14 g15 g16 g17 r0 r1 r2 r3) (wr := wdM cI hM b0 b1 b2 b9 p3 p4 p5 p6 p7 p8 p10 p11 p12 p13 p14 p15 p16 p17 p18 v0 v1 v2 v9) (As := [.int (xs (x3 + 1).toNatClampNeg), .int (xs (x3 + 2).toNatClampNeg)]) (rest := []) ⟨hx, hb, hml, hown, hts⟩ (ctX_set l D cI hX a0 a1 a2 a3 _ g4 g5 g6 g7 g8 g9 g10 g11 g12 g13 g14 g15 g16 g17 r0 r1 r2 r3 (xs (x3 + 1).toNatClampNeg) (xs (x3 + 2).toNatClampNeg)) (cwV 2 hts gL_law_X0_set rfl rfl rfl (by decide +kernel) ⟨Nat.le_of_ble_eq_true rfl, Nat.le_of_ble_eq_true rfl⟩) hK hP hD hS hA (tbX_bl) (tbX_to hT hS (bw_free (wr := wdM cI hM b0 b1 b2 b9 p3 p4 p5 p6 p7 p8 p10 p11 p12 p13 p14 p15 p16 p17 p18 v0 v1 v2 v9) hD hS hA)) 0 rfl rfl rfl hl.1 rfl (Nat.le_of_ble_eq_true rfl) dL_law_135 ⟨Nat.le_of_ble_eq_true rfl, Nat.le_of_ble_eq_true rfl⟩ (fun q1 u1 H locs hu1 hP hD hS => ?_)
        replace hP := bw_swP hP
        replace hD := bw_swD hD
        refine lv_aload_n hx hb dL_law_138 rfl (lv_at hl 1 rfl) ?_
        refine lv_aload_n hx hb dL_law_139 rfl (lv_at hl 3 rfl) ?_
        refine lv_iload_n hx hb dL_law_140 rfl (lv_at hl 0 rfl) ?_
        refine lv_iconst (v := 1) hx hb dL_law_141 (by decide +kernel) ?_
        refine lv_iadd hx hb dL_law_142 ?_
        refine va_sld hx hb hXs hbl hbA hS n1 dL_law_143 ?_
        refine lv_aload_n hx hb dL_law_144 rfl (lv_at hl 3 rfl) ?_
        refine lv_iload_n hx hb dL_law_145 rfl (lv_at hl 0 rfl) ?_
        refine lv_iconst (v := 2) hx hb dL_law_146 (by decide +kernel) ?_
        refine lv_iadd hx hb dL_law_147 ?_
        refine va_sld hx hb hXs hbl hbA hS n2 dL_law_148 ?_
        refine bw_Vi (w := wdM cI hM b0 b1 b2 b9 p3 p4 p5 p6 p7 p8 p10 p11 p12 p13 p14 p15 p16 p17 p18 v0 v1 v2 v9) (wr := wfX cI hX a0 a1 a2 a3 u1) (As := [.int (xs (x3 + 1).toNatClampNeg), .int (xs (x3 + 2).toNatClampNeg)]) (rest := [.int q1]) ⟨hx, hb, hml, hown, hts0⟩ (ctM_set l D cI hM b0 b1 b2 b9 _ p3 p4 p5 p6 p7 p8 p10 p11 p12 p13 p14 p15 p16 p17 p18 v0 v1 v2 v9 (xs (x3 + 1).toNatClampNeg) (xs (x3 + 2).toNatClampNeg)) (cwV 2 hts0 gL_law_XM_set rfl rfl rfl (by decide +kernel) ⟨Nat.le_of_ble_eq_true rfl, Nat.le_of_ble_eq_true rfl⟩) hK hP hD hS hA (fun _ _ _ _ h => h) (fun _ _ _ => trivial) 0 rfl rfl rfl hl.1 rfl (Nat.le_of_ble_eq_true rfl) dL_law_149 ⟨Nat.le_of_ble_eq_true rfl, Nat.le_of_ble_eq_true rfl⟩ (fun q2 u2 H locs hu2 hP hD hS => ?_)
        obtain ⟨hq, hR2, hI2⟩ := ok_set hR hI hu1 hu2
        refine lv_icmp_eq (tgt := 461) hx hb dL_law_152 (by decide) (fun _ => ?_) (fun hne => absurd hq hne)
        exact J461 u1 u2 hR2 hI2 H locs (bw_swP hP) (bw_swD hD) hS
      by_cases hs1 : z = 1
      · refine lv_tableIn (off := 125) (tgt := 157) hx hb dL_law_32 (by rw [hs1]; decide) (by rw [hs1]; decide) (by rw [hs1]; decide +kernel) (by decide) ?_
        refine lv_aload_n hx hb dL_law_157 rfl (lv_at hl 2 rfl) ?_
        refine lv_aload_n hx hb dL_law_158 rfl (lv_at hl 3 rfl) ?_
        refine lv_iload_n hx hb dL_law_159 rfl (lv_at hl 0 rfl) ?_
        refine lv_iconst (v := 1) hx hb dL_law_160 (by decide +kernel) ?_
        refine lv_iadd hx hb dL_law_161 ?_
        refine va_sld hx hb hXs hbl hbA hS n1 dL_law_162 ?_
        refine bw_Vi (w := wdX cI hX a0 a1 a2 a3 g4 g5 g6 g7 g8 g9 g10 g11 g12 g13 g14 g15 g16 g17 r0 r1 r2 r3) (wr := wdM cI hM b0 b1 b2 b9 p3 p4 p5 p6 p7 p8 p10 p11 p12 p13 p14 p15 p16 p17 p18 v0 v1 v2 v9) (As := [.int (xs (x3 + 1).toNatClampNeg)]) (rest := []) ⟨hx, hb, hml, hown, hts⟩ (ctX_parameter l D cI hX a0 a1 a2 a3 _ g4 g5 g6 g7 g8 g9 g10 g11 g12 g13 g14 g15 g16 g17 r0 r1 r2 r3 (xs (x3 + 1).toNatClampNeg)) (cwV 1 hts gL_law_X0_parameter rfl rfl rfl (by decide +kernel) ⟨Nat.le_of_ble_eq_true rfl, Nat.le_of_ble_eq_true rfl⟩) hK hP hD hS hA (tbX_bl) (tbX_to hT hS (bw_free (wr := wdM cI hM b0 b1 b2 b9 p3 p4 p5 p6 p7 p8 p10 p11 p12 p13 p14 p15 p16 p17 p18 v0 v1 v2 v9) hD hS hA)) 0 rfl rfl rfl hl.1 rfl (Nat.le_of_ble_eq_true rfl) dL_law_163 ⟨Nat.le_of_ble_eq_true rfl, Nat.le_of_ble_eq_true rfl⟩ (fun q1 u1 H locs hu1 hP hD hS => ?_)
        replace hP := bw_swP hP
        replace hD := bw_swD hD
        refine lv_aload_n hx hb dL_law_166 rfl (lv_at hl 1 rfl) ?_
        refine lv_aload_n hx hb dL_law_167 rfl (lv_at hl 3 rfl) ?_
        refine lv_iload_n hx hb dL_law_168 rfl (lv_at hl 0 rfl) ?_
        refine lv_iconst (v := 1) hx hb dL_law_169 (by decide +kernel) ?_
        refine lv_iadd hx hb dL_law_170 ?_
        refine va_sld hx hb hXs hbl hbA hS n1 dL_law_171 ?_
        refine bw_Vi (w := wdM cI hM b0 b1 b2 b9 p3 p4 p5 p6 p7 p8 p10 p11 p12 p13 p14 p15 p16 p17 p18 v0 v1 v2 v9) (wr := wfX cI hX a0 a1 a2 a3 u1) (As := [.int (xs (x3 + 1).toNatClampNeg)]) (rest := [.int q1]) ⟨hx, hb, hml, hown, hts0⟩ (ctM_parameter l D cI hM b0 b1 b2 b9 _ p3 p4 p5 p6 p7 p8 p10 p11 p12 p13 p14 p15 p16 p17 p18 v0 v1 v2 v9 (xs (x3 + 1).toNatClampNeg)) (cwV 1 hts0 gL_law_XM_parameter rfl rfl rfl (by decide +kernel) ⟨Nat.le_of_ble_eq_true rfl, Nat.le_of_ble_eq_true rfl⟩) hK hP hD hS hA (fun _ _ _ _ h => h) (fun _ _ _ => trivial) 0 rfl rfl rfl hl.1 rfl (Nat.le_of_ble_eq_true rfl) dL_law_172 ⟨Nat.le_of_ble_eq_true rfl, Nat.le_of_ble_eq_true rfl⟩ (fun q2 u2 H locs hu2 hP hD hS => ?_)
        obtain ⟨hq, hR2, hI2⟩ := ok_parameter hR hI hu1 hu2
        refine lv_icmp_eq (tgt := 461) hx hb dL_law_175 (by decide) (fun _ => ?_) (fun hne => absurd hq hne)
        exact J461 u1 u2 hR2 hI2 H locs (bw_swP hP) (bw_swD hD) hS
      by_cases hs2 : z = 2
      · refine lv_tableIn (off := 148) (tgt := 180) hx hb dL_law_32 (by rw [hs2]; decide) (by rw [hs2]; decide) (by rw [hs2]; decide +kernel) (by decide) ?_
        refine lv_aload_n hx hb dL_law_180 rfl (lv_at hl 2 rfl) ?_
        refine lv_aload_n hx hb dL_law_181 rfl (lv_at hl 3 rfl) ?_
        refine lv_iload_n hx hb dL_law_182 rfl (lv_at hl 0 rfl) ?_
        refine lv_iconst (v := 1) hx hb dL_law_183 (by decide +kernel) ?_
        refine lv_iadd hx hb dL_law_184 ?_
        refine va_sld hx hb hXs hbl hbA hS n1 dL_law_185 ?_
        refine lv_aload_n hx hb dL_law_186 rfl (lv_at hl 3 rfl) ?_
        refine lv_iload_n hx hb dL_law_187 rfl (lv_at hl 0 rfl) ?_
        refine lv_iconst (v := 2) hx hb dL_law_188 (by decide +kernel) ?_
        refine lv_iadd hx hb dL_law_189 ?_
        refine va_sld hx hb hXs hbl hbA hS n2 dL_law_190 ?_
        refine bw_Vi (w := wdX cI hX a0 a1 a2 a3 g4 g5 g6 g7 g8 g9 g10 g11 g12 g13 g14 g15 g16 g17 r0 r1 r2 r3) (wr := wdM cI hM b0 b1 b2 b9 p3 p4 p5 p6 p7 p8 p10 p11 p12 p13 p14 p15 p16 p17 p18 v0 v1 v2 v9) (As := [.int (xs (x3 + 1).toNatClampNeg), .int (xs (x3 + 2).toNatClampNeg)]) (rest := []) ⟨hx, hb, hml, hown, hts⟩ (ctX_sense l D cI hX a0 a1 a2 a3 _ g4 g5 g6 g7 g8 g9 g10 g11 g12 g13 g14 g15 g16 g17 r0 r1 r2 r3 (xs (x3 + 1).toNatClampNeg) (xs (x3 + 2).toNatClampNeg)) (cwV 2 hts gL_law_X0_sense rfl rfl rfl (by decide +kernel) ⟨Nat.le_of_ble_eq_true rfl, Nat.le_of_ble_eq_true rfl⟩) hK hP hD hS hA (tbX_bl) (tbX_to hT hS (bw_free (wr := wdM cI hM b0 b1 b2 b9 p3 p4 p5 p6 p7 p8 p10 p11 p12 p13 p14 p15 p16 p17 p18 v0 v1 v2 v9) hD hS hA)) 0 rfl rfl rfl hl.1 rfl (Nat.le_of_ble_eq_true rfl) dL_law_191 ⟨Nat.le_of_ble_eq_true rfl, Nat.le_of_ble_eq_true rfl⟩ (fun q1 u1 H locs hu1 hP hD hS => ?_)
        replace hP := bw_swP hP
        replace hD := bw_swD hD
        refine lv_aload_n hx hb dL_law_194 rfl (lv_at hl 1 rfl) ?_
        refine lv_aload_n hx hb dL_law_195 rfl (lv_at hl 3 rfl) ?_
        refine lv_iload_n hx hb dL_law_196 rfl (lv_at hl 0 rfl) ?_
        refine lv_iconst (v := 1) hx hb dL_law_197 (by decide +kernel) ?_
        refine lv_iadd hx hb dL_law_198 ?_
        refine va_sld hx hb hXs hbl hbA hS n1 dL_law_199 ?_
        refine lv_aload_n hx hb dL_law_200 rfl (lv_at hl 3 rfl) ?_
        refine lv_iload_n hx hb dL_law_201 rfl (lv_at hl 0 rfl) ?_
        refine lv_iconst (v := 2) hx hb dL_law_202 (by decide +kernel) ?_
        refine lv_iadd hx hb dL_law_203 ?_
        refine va_sld hx hb hXs hbl hbA hS n2 dL_law_204 ?_
        refine bw_Vi (w := wdM cI hM b0 b1 b2 b9 p3 p4 p5 p6 p7 p8 p10 p11 p12 p13 p14 p15 p16 p17 p18 v0 v1 v2 v9) (wr := wfX cI hX a0 a1 a2 a3 u1) (As := [.int (xs (x3 + 1).toNatClampNeg), .int (xs (x3 + 2).toNatClampNeg)]) (rest := [.int q1]) ⟨hx, hb, hml, hown, hts0⟩ (ctM_sense l D cI hM b0 b1 b2 b9 _ p3 p4 p5 p6 p7 p8 p10 p11 p12 p13 p14 p15 p16 p17 p18 v0 v1 v2 v9 (xs (x3 + 1).toNatClampNeg) (xs (x3 + 2).toNatClampNeg)) (cwV 2 hts0 gL_law_XM_sense rfl rfl rfl (by decide +kernel) ⟨Nat.le_of_ble_eq_true rfl, Nat.le_of_ble_eq_true rfl⟩) hK hP hD hS hA (fun _ _ _ _ h => h) (fun _ _ _ => trivial) 0 rfl rfl rfl hl.1 rfl (Nat.le_of_ble_eq_true rfl) dL_law_205 ⟨Nat.le_of_ble_eq_true rfl, Nat.le_of_ble_eq_true rfl⟩ (fun q2 u2 H locs hu2 hP hD hS => ?_)
        obtain ⟨hq, hR2, hI2⟩ := ok_sense hR hI hu1 hu2
        refine lv_icmp_eq (tgt := 461) hx hb dL_law_208 (by decide) (fun _ => ?_) (fun hne => absurd hq hne)
        exact J461 u1 u2 hR2 hI2 H locs (bw_swP hP) (bw_swD hD) hS
      by_cases hs3 : z = 3
      · refine lv_tableIn (off := 181) (tgt := 213) hx hb dL_law_32 (by rw [hs3]; decide) (by rw [hs3]; decide) (by rw [hs3]; decide +kernel) (by decide) ?_
        refine lv_aload_n hx hb dL_law_213 rfl (lv_at hl 2 rfl) ?_
        refine lv_aload_n hx hb dL_law_214 rfl (lv_at hl 3 rfl) ?_
        refine lv_iload_n hx hb dL_law_215 rfl (lv_at hl 0 rfl) ?_
        refine lv_iconst (v := 1) hx hb dL_law_216 (by decide +kernel) ?_
        refine lv_iadd hx hb dL_law_217 ?_
        refine va_sld hx hb hXs hbl hbA hS n1 dL_law_218 ?_
        refine bw_Vi (w := wdX cI hX a0 a1 a2 a3 g4 g5 g6 g7 g8 g9 g10 g11 g12 g13 g14 g15 g16 g17 r0 r1 r2 r3) (wr := wdM cI hM b0 b1 b2 b9 p3 p4 p5 p6 p7 p8 p10 p11 p12 p13 p14 p15 p16 p17 p18 v0 v1 v2 v9) (As := [.int (xs (x3 + 1).toNatClampNeg)]) (rest := []) ⟨hx, hb, hml, hown, hts⟩ (ctX_conditioned l D cI hX a0 a1 a2 a3 _ g4 g5 g6 g7 g8 g9 g10 g11 g12 g13 g14 g15 g16 g17 r0 r1 r2 r3 (xs (x3 + 1).toNatClampNeg)) (cwV 1 hts gL_law_X0_conditioned rfl rfl rfl (by decide +kernel) ⟨Nat.le_of_ble_eq_true rfl, Nat.le_of_ble_eq_true rfl⟩) hK hP hD hS hA (tbX_bl) (tbX_to hT hS (bw_free (wr := wdM cI hM b0 b1 b2 b9 p3 p4 p5 p6 p7 p8 p10 p11 p12 p13 p14 p15 p16 p17 p18 v0 v1 v2 v9) hD hS hA)) 0 rfl rfl rfl hl.1 rfl (Nat.le_of_ble_eq_true rfl) dL_law_219 ⟨Nat.le_of_ble_eq_true rfl, Nat.le_of_ble_eq_true rfl⟩ (fun q1 u1 H locs hu1 hP hD hS => ?_)
        replace hP := bw_swP hP
        replace hD := bw_swD hD
        refine lv_aload_n hx hb dL_law_222 rfl (lv_at hl 1 rfl) ?_
        refine lv_aload_n hx hb dL_law_223 rfl (lv_at hl 3 rfl) ?_
        refine lv_iload_n hx hb dL_law_224 rfl (lv_at hl 0 rfl) ?_
        refine lv_iconst (v := 1) hx hb dL_law_225 (by decide +kernel) ?_
        refine lv_iadd hx hb dL_law_226 ?_
        refine va_sld hx hb hXs hbl hbA hS n1 dL_law_227 ?_
        refine bw_Vi (w := wdM cI hM b0 b1 b2 b9 p3 p4 p5 p6 p7 p8 p10 p11 p12 p13 p14 p15 p16 p17 p18 v0 v1 v2 v9) (wr := wfX cI hX a0 a1 a2 a3 u1) (As := [.int (xs (x3 + 1).toNatClampNeg)]) (rest := [.int q1]) ⟨hx, hb, hml, hown, hts0⟩ (ctM_conditioned l D cI hM b0 b1 b2 b9 _ p3 p4 p5 p6 p7 p8 p10 p11 p12 p13 p14 p15 p16 p17 p18 v0 v1 v2 v9 (xs (x3 + 1).toNatClampNeg)) (cwV 1 hts0 gL_law_XM_conditioned rfl rfl rfl (by decide +kernel) ⟨Nat.le_of_ble_eq_true rfl, Nat.le_of_ble_eq_true rfl⟩) hK hP hD hS hA (fun _ _ _ _ h => h) (fun _ _ _ => trivial) 0 rfl rfl rfl hl.1 rfl (Nat.le_of_ble_eq_true rfl) dL_law_228 ⟨Nat.le_of_ble_eq_true rfl, Nat.le_of_ble_eq_true rfl⟩ (fun q2 u2 H locs hu2 hP hD hS => ?_)
        obtain ⟨hq, hR2, hI2⟩ := ok_conditioned hR hI hu1 hu2
        refine lv_icmp_eq (tgt := 461) hx hb dL_law_231 (by decide) (fun _ => ?_) (fun hne => absurd hq hne)
        exact J461 u1 u2 hR2 hI2 H locs (bw_swP hP) (bw_swD hD) hS
      by_cases hs4 : z = 4
      · refine lv_tableIn (off := 204) (tgt := 236) hx hb dL_law_32 (by rw [hs4]; decide) (by rw [hs4]; decide) (by rw [hs4]; decide +kernel) (by decide) ?_
        refine lv_aload_n hx hb dL_law_236 rfl (lv_at hl 2 rfl) ?_
        refine lv_aload_n hx hb dL_law_237 rfl (lv_at hl 3 rfl) ?_
        refine lv_iload_n hx hb dL_law_238 rfl (lv_at hl 0 rfl) ?_
        refine lv_iconst (v := 1) hx hb dL_law_239 (by decide +kernel) ?_
        refine lv_iadd hx hb dL_law_240 ?_
        refine va_sld hx hb hXs hbl hbA hS n1 dL_law_241 ?_
        refine bw_Vi (w := wdX cI hX a0 a1 a2 a3 g4 g5 g6 g7 g8 g9 g10 g11 g12 g13 g14 g15 g16 g17 r0 r1 r2 r3) (wr := wdM cI hM b0 b1 b2 b9 p3 p4 p5 p6 p7 p8 p10 p11 p12 p13 p14 p15 p16 p17 p18 v0 v1 v2 v9) (As := [.int (xs (x3 + 1).toNatClampNeg)]) (rest := []) ⟨hx, hb, hml, hown, hts⟩ (ctX_faulty l D cI hX a0 a1 a2 a3 _ g4 g5 g6 g7 g8 g9 g10 g11 g12 g13 g14 g15 g16 g17 r0 r1 r2 r3 (xs (x3 + 1).toNatClampNeg)) (cwV 1 hts gL_law_X0_faulty rfl rfl rfl (by decide +kernel) ⟨Nat.le_of_ble_eq_true rfl, Nat.le_of_ble_eq_true rfl⟩) hK hP hD hS hA (tbX_bl) (tbX_to hT hS (bw_free (wr := wdM cI hM b0 b1 b2 b9 p3 p4 p5 p6 p7 p8 p10 p11 p12 p13 p14 p15 p16 p17 p18 v0 v1 v2 v9) hD hS hA)) 0 rfl rfl rfl hl.1 rfl (Nat.le_of_ble_eq_true rfl) dL_law_242 ⟨Nat.le_of_ble_eq_true rfl, Nat.le_of_ble_eq_true rfl⟩ (fun q1 u1 H locs hu1 hP hD hS => ?_)
        replace hP := bw_swP hP
        replace hD := bw_swD hD
        refine lv_aload_n hx hb dL_law_245 rfl (lv_at hl 1 rfl) ?_
        refine lv_aload_n hx hb dL_law_246 rfl (lv_at hl 3 rfl) ?_
        refine lv_iload_n hx hb dL_law_247 rfl (lv_at hl 0 rfl) ?_
        refine lv_iconst (v := 1) hx hb dL_law_248 (by decide +kernel) ?_
        refine lv_iadd hx hb dL_law_249 ?_
        refine va_sld hx hb hXs hbl hbA hS n1 dL_law_250 ?_
        refine bw_Vi (w := wdM cI hM b0 b1 b2 b9 p3 p4 p5 p6 p7 p8 p10 p11 p12 p13 p14 p15 p16 p17 p18 v0 v1 v2 v9) (wr := wfX cI hX a0 a1 a2 a3 u1) (As := [.int (xs (x3 + 1).toNatClampNeg)]) (rest := [.int q1]) ⟨hx, hb, hml, hown, hts0⟩ (ctM_faulty l D cI hM b0 b1 b2 b9 _ p3 p4 p5 p6 p7 p8 p10 p11 p12 p13 p14 p15 p16 p17 p18 v0 v1 v2 v9 (xs (x3 + 1).toNatClampNeg)) (cwV 1 hts0 gL_law_XM_faulty rfl rfl rfl (by decide +kernel) ⟨Nat.le_of_ble_eq_true rfl, Nat.le_of_ble_eq_true rfl⟩) hK hP hD hS hA (fun _ _ _ _ h => h) (fun _ _ _ => trivial) 0 rfl rfl rfl hl.1 rfl (Nat.le_of_ble_eq_true rfl) dL_law_251 ⟨Nat.le_of_ble_eq_true rfl, Nat.le_of_ble_eq_true rfl⟩ (fun q2 u2 H locs hu2 hP hD hS => ?_)
        obtain ⟨hq, hR2, hI2⟩ := ok_faulty hR hI hu1 hu2
        refine lv_icmp_eq (tgt := 461) hx hb dL_law_254 (by decide) (fun _ => ?_) (fun hne => absurd hq hne)
        exact J461 u1 u2 hR2 hI2 H locs (bw_swP hP) (bw_swD hD) hS
      by_cases hs5 : z = 5
      · refine lv_tableIn (off := 227) (tgt := 259) hx hb dL_law_32 (by rw [hs5]; decide) (by rw [hs5]; decide) (by rw [hs5]; decide +kernel) (by decide) ?_
        refine lv_aload_n hx hb dL_law_259 rfl (lv_at hl 2 rfl) ?_
        refine bw_Vi (w := wdX cI hX a0 a1 a2 a3 g4 g5 g6 g7 g8 g9 g10 g11 g12 g13 g14 g15 g16 g17 r0 r1 r2 r3) (wr := wdM cI hM b0 b1 b2 b9 p3 p4 p5 p6 p7 p8 p10 p11 p12 p13 p14 p15 p16 p17 p18 v0 v1 v2 v9) (As := []) (rest := []) ⟨hx, hb, hml, hown, hts⟩ (ctX_next l D cI hX a0 a1 a2 a3 _ g4 g5 g6 g7 g8 g9 g10 g11 g12 g13 g14 g15 g16 g17 r0 r1 r2 r3) (cwV 0 hts gL_law_X0_next rfl rfl rfl (by decide +kernel) ⟨Nat.le_of_ble_eq_true rfl, Nat.le_of_ble_eq_true rfl⟩) hK hP hD hS hA (tbX_bl) (tbX_to hT hS (bw_free (wr := wdM cI hM b0 b1 b2 b9 p3 p4 p5 p6 p7 p8 p10 p11 p12 p13 p14 p15 p16 p17 p18 v0 v1 v2 v9) hD hS hA)) 0 rfl rfl rfl hl.1 rfl (Nat.le_of_ble_eq_true rfl) dL_law_260 ⟨Nat.le_of_ble_eq_true rfl, Nat.le_of_ble_eq_true rfl⟩ (fun q1 u1 H locs hu1 hP hD hS => ?_)
        replace hP := bw_swP hP
        replace hD := bw_swD hD
        refine lv_aload_n hx hb dL_law_263 rfl (lv_at hl 1 rfl) ?_
        refine bw_Vi (w := wdM cI hM b0 b1 b2 b9 p3 p4 p5 p6 p7 p8 p10 p11 p12 p13 p14 p15 p16 p17 p18 v0 v1 v2 v9) (wr := wfX cI hX a0 a1 a2 a3 u1) (As := []) (rest := [.int q1]) ⟨hx, hb, hml, hown, hts0⟩ (ctM_next l D cI hM b0 b1 b2 b9 _ p3 p4 p5 p6 p7 p8 p10 p11 p12 p13 p14 p15 p16 p17 p18 v0 v1 v2 v9) (cwV 0 hts0 gL_law_XM_next rfl rfl rfl (by decide +kernel) ⟨Nat.le_of_ble_eq_true rfl, Nat.le_of_ble_eq_true rfl⟩) hK hP hD hS hA (fun _ _ _ _ h => h) (fun _ _ _ => trivial) 0 rfl rfl rfl hl.1 rfl (Nat.le_of_ble_eq_true rfl) dL_law_264 ⟨Nat.le_of_ble_eq_true rfl, Nat.le_of_ble_eq_true rfl⟩ (fun q2 u2 H locs hu2 hP hD hS => ?_)
        obtain ⟨hq, hR2, hI2⟩ := ok_next hR hI hu1 hu2
        refine lv_icmp_eq (tgt := 461) hx hb dL_law_267 (by decide) (fun _ => ?_) (fun hne => absurd hq hne)
        exact J461 u1 u2 hR2 hI2 H locs (bw_swP hP) (bw_swD hD) hS
      by_cases hs6 : z = 6
      · refine lv_tableIn (off := 240) (tgt := 272) hx hb dL_law_32 (by rw [hs6]; decide) (by rw [hs6]; decide) (by rw [hs6]; decide +kernel) (by decide) ?_
        refine lv_aload_n hx hb dL_law_272 rfl (lv_at hl 2 rfl) ?_
        refine bw_Vi (w := wdX cI hX a0 a1 a2 a3 g4 g5 g6 g7 g8 g9 g10 g11 g12 g13 g14 g15 g16 g17 r0 r1 r2 r3) (wr := wdM cI hM b0 b1 b2 b9 p3 p4 p5 p6 p7 p8 p10 p11 p12 p13 p14 p15 p16 p17 p18 v0 v1 v2 v9) (As := []) (rest := []) ⟨hx, hb, hml, hown, hts⟩ (ctX_acknowledge l D cI hX a0 a1 a2 a3 _ g4 g5 g6 g7 g8 g9 g10 g11 g12 g13 g14 g15 g16 g17 r0 r1 r2 r3) (cwV 0 hts gL_law_X0_acknowledge rfl rfl rfl (by decide +kernel) ⟨Nat.le_of_ble_eq_true rfl, Nat.le_of_ble_eq_true rfl⟩) hK hP hD hS hA (tbX_bl) (tbX_to hT hS (bw_free (wr := wdM cI hM b0 b1 b2 b9 p3 p4 p5 p6 p7 p8 p10 p11 p12 p13 p14 p15 p16 p17 p18 v0 v1 v2 v9) hD hS hA)) 0 rfl rfl rfl hl.1 rfl (Nat.le_of_ble_eq_true rfl) dL_law_273 ⟨Nat.le_of_ble_eq_true rfl, Nat.le_of_ble_eq_true rfl⟩ (fun q1 u1 H locs hu1 hP hD hS => ?_)
        replace hP := bw_swP hP
        replace hD := bw_swD hD
        refine lv_aload_n hx hb dL_law_276 rfl (lv_at hl 1 rfl) ?_
        refine bw_Vi (w := wdM cI hM b0 b1 b2 b9 p3 p4 p5 p6 p7 p8 p10 p11 p12 p13 p14 p15 p16 p17 p18 v0 v1 v2 v9) (wr := wfX cI hX a0 a1 a2 a3 u1) (As := []) (rest := [.int q1]) ⟨hx, hb, hml, hown, hts0⟩ (ctM_acknowledge l D cI hM b0 b1 b2 b9 _ p3 p4 p5 p6 p7 p8 p10 p11 p12 p13 p14 p15 p16 p17 p18 v0 v1 v2 v9) (cwV 0 hts0 gL_law_XM_acknowledge rfl rfl rfl (by decide +kernel) ⟨Nat.le_of_ble_eq_true rfl, Nat.le_of_ble_eq_true rfl⟩) hK hP hD hS hA (fun _ _ _ _ h => h) (fun _ _ _ => trivial) 0 rfl rfl rfl hl.1 rfl (Nat.le_of_ble_eq_true rfl) dL_law_277 ⟨Nat.le_of_ble_eq_true rfl, Nat.le_of_ble_eq_true rfl⟩ (fun q2 u2 H locs hu2 hP hD hS => ?_)
        obtain ⟨hq, hR2, hI2⟩ := ok_acknowledge hR hI hu1 hu2
        refine lv_icmp_eq (tgt := 461) hx hb dL_law_280 (by decide) (fun _ => ?_) (fun hne => absurd hq hne)
        exact J461 u1 u2 hR2 hI2 H locs (bw_swP hP) (bw_swD hD) hS
      by_cases hs7 : z = 7
      · refine lv_tableIn (off := 253) (tgt := 285) hx hb dL_law_32 (by rw [hs7]; decide) (by rw [hs7]; decide) (by rw [hs7]; decide +kernel) (by decide) ?_
        refine lv_aload_n hx hb dL_law_285 rfl (lv_at hl 2 rfl) ?_
        refine lv_aload_n hx hb dL_law_286 rfl (lv_at hl 3 rfl) ?_
        refine lv_iload_n hx hb dL_law_287 rfl (lv_at hl 0 rfl) ?_
        refine lv_iconst (v := 1) hx hb dL_law_288 (by decide +kernel) ?_
        refine lv_iadd hx hb dL_law_289 ?_
        refine va_sld hx hb hXs hbl hbA hS n1 dL_law_290 ?_
        refine bw_Vi (w := wdX cI hX a0 a1 a2 a3 g4 g5 g6 g7 g8 g9 g10 g11 g12 g13 g14 g15 g16 g17 r0 r1 r2 r3) (wr := wdM cI hM b0 b1 b2 b9 p3 p4 p5 p6 p7 p8 p10 p11 p12 p13 p14 p15 p16 p17 p18 v0 v1 v2 v9) (As := [.int (xs (x3 + 1).toNatClampNeg)]) (rest := []) ⟨hx, hb, hml, hown, hts⟩ (ctX_substitute l D cI hX a0 a1 a2 a3 _ g4 g5 g6 g7 g8 g9 g10 g11 g12 g13 g14 g15 g16 g17 r0 r1 r2 r3 (xs (x3 + 1).toNatClampNeg)) (cwV 1 hts gL_law_X0_substitute rfl rfl rfl (by decide +kernel) ⟨Nat.le_of_ble_eq_true rfl, Nat.le_of_ble_eq_true rfl⟩) hK hP hD hS hA (tbX_bl) (tbX_to hT hS (bw_free (wr := wdM cI hM b0 b1 b2 b9 p3 p4 p5 p6 p7 p8 p10 p11 p12 p13 p14 p15 p16 p17 p18 v0 v1 v2 v9) hD hS hA)) 0 rfl rfl rfl hl.1 rfl (Nat.le_of_ble_eq_true rfl) dL_law_291 ⟨Nat.le_of_ble_eq_true rfl, Nat.le_of_ble_eq_true rfl⟩ (fun q1 u1 H locs hu1 hP hD hS => ?_)
        replace hP := bw_swP hP
        replace hD := bw_swD hD
        refine lv_aload_n hx hb dL_law_294 rfl (lv_at hl 1 rfl) ?_
        refine lv_aload_n hx hb dL_law_295 rfl (lv_at hl 3 rfl) ?_
        refine lv_iload_n hx hb dL_law_296 rfl (lv_at hl 0 rfl) ?_
        refine lv_iconst (v := 1) hx hb dL_law_297 (by decide +kernel) ?_
        refine lv_iadd hx hb dL_law_298 ?_
        refine va_sld hx hb hXs hbl hbA hS n1 dL_law_299 ?_
        refine bw_Vi (w := wdM cI hM b0 b1 b2 b9 p3 p4 p5 p6 p7 p8 p10 p11 p12 p13 p14 p15 p16 p17 p18 v0 v1 v2 v9) (wr := wfX cI hX a0 a1 a2 a3 u1) (As := [.int (xs (x3 + 1).toNatClampNeg)]) (rest := [.int q1]) ⟨hx, hb, hml, hown, hts0⟩ (ctM_substitute l D cI hM b0 b1 b2 b9 _ p3 p4 p5 p6 p7 p8 p10 p11 p12 p13 p14 p15 p16 p17 p18 v0 v1 v2 v9 (xs (x3 + 1).toNatClampNeg)) (cwV 1 hts0 gL_law_XM_substitute rfl rfl rfl (by decide +kernel) ⟨Nat.le_of_ble_eq_true rfl, Nat.le_of_ble_eq_true rfl⟩) hK hP hD hS hA (fun _ _ _ _ h => h) (fun _ _ _ => trivial) 0 rfl rfl rfl hl.1 rfl (Nat.le_of_ble_eq_true rfl) dL_law_300 ⟨Nat.le_of_ble_eq_true rfl, Nat.le_of_ble_eq_true rfl⟩ (fun q2 u2 H locs hu2 hP hD hS => ?_)
        obtain ⟨hq, hR2, hI2⟩ := ok_substitute hR hI hu1 hu2
        refine lv_icmp_eq (tgt := 461) hx hb dL_law_303 (by decide) (fun _ => ?_) (fun hne => absurd hq hne)
        exact J461 u1 u2 hR2 hI2 H locs (bw_swP hP) (bw_swD hD) hS
      by_cases hs8 : z = 8
      · refine lv_tableIn (off := 276) (tgt := 308) hx hb dL_law_32 (by rw [hs8]; decide) (by rw [hs8]; decide) (by rw [hs8]; decide +kernel) (by decide) ?_
        refine lv_aload_n hx hb dL_law_308 rfl (lv_at hl 2 rfl) ?_
        refine lv_aload_n hx hb dL_law_309 rfl (lv_at hl 3 rfl) ?_
        refine lv_iload_n hx hb dL_law_310 rfl (lv_at hl 0 rfl) ?_
        refine lv_iconst (v := 1) hx hb dL_law_311 (by decide +kernel) ?_
        refine lv_iadd hx hb dL_law_312 ?_
        refine va_sld hx hb hXs hbl hbA hS n1 dL_law_313 ?_
        refine bw_Vi (w := wdX cI hX a0 a1 a2 a3 g4 g5 g6 g7 g8 g9 g10 g11 g12 g13 g14 g15 g16 g17 r0 r1 r2 r3) (wr := wdM cI hM b0 b1 b2 b9 p3 p4 p5 p6 p7 p8 p10 p11 p12 p13 p14 p15 p16 p17 p18 v0 v1 v2 v9) (As := [.int (xs (x3 + 1).toNatClampNeg)]) (rest := []) ⟨hx, hb, hml, hown, hts⟩ (ctX_tick l D cI hX a0 a1 a2 a3 _ g4 g5 g6 g7 g8 g9 g10 g11 g12 g13 g14 g15 g16 g17 r0 r1 r2 r3 (xs (x3 + 1).toNatClampNeg)) (cwV 1 hts gL_law_X0_tick rfl rfl rfl (by decide +kernel) ⟨Nat.le_of_ble_eq_true rfl, Nat.le_of_ble_eq_true rfl⟩) hK hP hD hS hA (tbX_bl) (tbX_to hT hS (bw_free (wr := wdM cI hM b0 b1 b2 b9 p3 p4 p5 p6 p7 p8 p10 p11 p12 p13 p14 p15 p16 p17 p18 v0 v1 v2 v9) hD hS hA)) 0 rfl rfl rfl hl.1 rfl (Nat.le_of_ble_eq_true rfl) dL_law_314 ⟨Nat.le_of_ble_eq_true rfl, Nat.le_of_ble_eq_true rfl⟩ (fun q1 u1 H locs hu1 hP hD hS => ?_)
        replace hP := bw_swP hP
        replace hD := bw_swD hD
        refine lv_aload_n hx hb dL_law_317 rfl (lv_at hl 1 rfl) ?_
        refine lv_aload_n hx hb dL_law_318 rfl (lv_at hl 3 rfl) ?_
        refine lv_iload_n hx hb dL_law_319 rfl (lv_at hl 0 rfl) ?_
        refine lv_iconst (v := 1) hx hb dL_law_320 (by decide +kernel) ?_
        refine lv_iadd hx hb dL_law_321 ?_
        refine va_sld hx hb hXs hbl hbA hS n1 dL_law_322 ?_
        refine bw_Vi (w := wdM cI hM b0 b1 b2 b9 p3 p4 p5 p6 p7 p8 p10 p11 p12 p13 p14 p15 p16 p17 p18 v0 v1 v2 v9) (wr := wfX cI hX a0 a1 a2 a3 u1) (As := [.int (xs (x3 + 1).toNatClampNeg)]) (rest := [.int q1]) ⟨hx, hb, hml, hown, hts0⟩ (ctM_tick l D cI hM b0 b1 b2 b9 _ p3 p4 p5 p6 p7 p8 p10 p11 p12 p13 p14 p15 p16 p17 p18 v0 v1 v2 v9 (xs (x3 + 1).toNatClampNeg) (inv_hV hI)) (cwV 1 hts0 gL_law_XM_tick rfl rfl rfl (by decide +kernel) ⟨Nat.le_of_ble_eq_true rfl, Nat.le_of_ble_eq_true rfl⟩) hK hP hD hS hA (fun _ _ _ _ h => h) (fun _ _ _ => trivial) 0 rfl rfl rfl hl.1 rfl (Nat.le_of_ble_eq_true rfl) dL_law_323 ⟨Nat.le_of_ble_eq_true rfl, Nat.le_of_ble_eq_true rfl⟩ (fun q2 u2 H locs hu2 hP hD hS => ?_)
        obtain ⟨hq, hR2, hI2⟩ := ok_tick hN hR hI hu1 hu2
        refine lv_icmp_eq (tgt := 461) hx hb dL_law_326 (by decide) (fun _ => ?_) (fun hne => absurd hq hne)
        exact J461 u1 u2 hR2 hI2 H locs (bw_swP hP) (bw_swD hD) hS
      by_cases hs9 : z = 9
      · refine lv_tableIn (off := 299) (tgt := 331) hx hb dL_law_32 (by rw [hs9]; decide) (by rw [hs9]; decide) (by rw [hs9]; decide +kernel) (by decide) ?_
        refine lv_aload_n hx hb dL_law_331 rfl (lv_at hl 2 rfl) ?_
        refine bw_Vi (w := wdX cI hX a0 a1 a2 a3 g4 g5 g6 g7 g8 g9 g10 g11 g12 g13 g14 g15 g16 g17 r0 r1 r2 r3) (wr := wdM cI hM b0 b1 b2 b9 p3 p4 p5 p6 p7 p8 p10 p11 p12 p13 p14 p15 p16 p17 p18 v0 v1 v2 v9) (As := []) (rest := []) ⟨hx, hb, hml, hown, hts⟩ (ctX_phase l D cI hX a0 a1 a2 a3 _ g4 g5 g6 g7 g8 g9 g10 g11 g12 g13 g14 g15 g16 g17 r0 r1 r2 r3) (cwV 0 hts gL_law_X0_phase rfl rfl rfl (by decide +kernel) ⟨Nat.le_of_ble_eq_true rfl, Nat.le_of_ble_eq_true rfl⟩) hK hP hD hS hA (tbX_bl) (tbX_to hT hS (bw_free (wr := wdM cI hM b0 b1 b2 b9 p3 p4 p5 p6 p7 p8 p10 p11 p12 p13 p14 p15 p16 p17 p18 v0 v1 v2 v9) hD hS hA)) 0 rfl rfl rfl hl.1 rfl (Nat.le_of_ble_eq_true rfl) dL_law_332 ⟨Nat.le_of_ble_eq_true rfl, Nat.le_of_ble_eq_true rfl⟩ (fun q1 u1 H locs hu1 hP hD hS => ?_)
        replace hP := bw_swP hP
        replace hD := bw_swD hD
        refine lv_aload_n hx hb dL_law_335 rfl (lv_at hl 1 rfl) ?_
        refine bw_Vi (w := wdM cI hM b0 b1 b2 b9 p3 p4 p5 p6 p7 p8 p10 p11 p12 p13 p14 p15 p16 p17 p18 v0 v1 v2 v9) (wr := wfX cI hX a0 a1 a2 a3 u1) (As := []) (rest := [.int q1]) ⟨hx, hb, hml, hown, hts0⟩ (ctM_phase l D cI hM b0 b1 b2 b9 _ p3 p4 p5 p6 p7 p8 p10 p11 p12 p13 p14 p15 p16 p17 p18 v0 v1 v2 v9) (cwV 0 hts0 gL_law_XM_phase rfl rfl rfl (by decide +kernel) ⟨Nat.le_of_ble_eq_true rfl, Nat.le_of_ble_eq_true rfl⟩) hK hP hD hS hA (fun _ _ _ _ h => h) (fun _ _ _ => trivial) 0 rfl rfl rfl hl.1 rfl (Nat.le_of_ble_eq_true rfl) dL_law_336 ⟨Nat.le_of_ble_eq_true rfl, Nat.le_of_ble_eq_true rfl⟩ (fun q2 u2 H locs hu2 hP hD hS => ?_)
        obtain ⟨hq, hR2, hI2⟩ := ok_phase hR hI hu1 hu2
        refine lv_icmp_eq (tgt := 461) hx hb dL_law_339 (by decide) (fun _ => ?_) (fun hne => absurd hq hne)
        exact J461 u1 u2 hR2 hI2 H locs (bw_swP hP) (bw_swD hD) hS
      by_cases hs10 : z = 10
      · refine lv_tableIn (off := 312) (tgt := 344) hx hb dL_law_32 (by rw [hs10]; decide) (by rw [hs10]; decide) (by rw [hs10]; decide +kernel) (by decide) ?_
        refine lv_aload_n hx hb dL_law_344 rfl (lv_at hl 2 rfl) ?_
        refine bw_Vi (w := wdX cI hX a0 a1 a2 a3 g4 g5 g6 g7 g8 g9 g10 g11 g12 g13 g14 g15 g16 g17 r0 r1 r2 r3) (wr := wdM cI hM b0 b1 b2 b9 p3 p4 p5 p6 p7 p8 p10 p11 p12 p13 p14 p15 p16 p17 p18 v0 v1 v2 v9) (As := []) (rest := []) ⟨hx, hb, hml, hown, hts⟩ (ctX_alarms l D cI hX a0 a1 a2 a3 _ g4 g5 g6 g7 g8 g9 g10 g11 g12 g13 g14 g15 g16 g17 r0 r1 r2 r3) (cwV 0 hts gL_law_X0_alarms rfl rfl rfl (by decide +kernel) ⟨Nat.le_of_ble_eq_true rfl, Nat.le_of_ble_eq_true rfl⟩) hK hP hD hS hA (tbX_bl) (tbX_to hT hS (bw_free (wr := wdM cI hM b0 b1 b2 b9 p3 p4 p5 p6 p7 p8 p10 p11 p12 p13 p14 p15 p16 p17 p18 v0 v1 v2 v9) hD hS hA)) 0 rfl rfl rfl hl.1 rfl (Nat.le_of_ble_eq_true rfl) dL_law_345 ⟨Nat.le_of_ble_eq_true rfl, Nat.le_of_ble_eq_true rfl⟩ (fun q1 u1 H locs hu1 hP hD hS => ?_)
        replace hP := bw_swP hP
        replace hD := bw_swD hD
        refine lv_aload_n hx hb dL_law_348 rfl (lv_at hl 1 rfl) ?_
        refine bw_Vi (w := wdM cI hM b0 b1 b2 b9 p3 p4 p5 p6 p7 p8 p10 p11 p12 p13 p14 p15 p16 p17 p18 v0 v1 v2 v9) (wr := wfX cI hX a0 a1 a2 a3 u1) (As := []) (rest := [.int q1]) ⟨hx, hb, hml, hown, hts0⟩ (ctM_alarms l D cI hM b0 b1 b2 b9 _ p3 p4 p5 p6 p7 p8 p10 p11 p12 p13 p14 p15 p16 p17 p18 v0 v1 v2 v9) (cwV 0 hts0 gL_law_XM_alarms rfl rfl rfl (by decide +kernel) ⟨Nat.le_of_ble_eq_true rfl, Nat.le_of_ble_eq_true rfl⟩) hK hP hD hS hA (fun _ _ _ _ h => h) (fun _ _ _ => trivial) 0 rfl rfl rfl hl.1 rfl (Nat.le_of_ble_eq_true rfl) dL_law_349 ⟨Nat.le_of_ble_eq_true rfl, Nat.le_of_ble_eq_true rfl⟩ (fun q2 u2 H locs hu2 hP hD hS => ?_)
        obtain ⟨hq, hR2, hI2⟩ := ok_alarms hR hI hu1 hu2
        refine lv_icmp_eq (tgt := 461) hx hb dL_law_352 (by decide) (fun _ => ?_) (fun hne => absurd hq hne)
        exact J461 u1 u2 hR2 hI2 H locs (bw_swP hP) (bw_swD hD) hS
      by_cases hs11 : z = 11
      · refine lv_tableIn (off := 325) (tgt := 357) hx hb dL_law_32 (by rw [hs11]; decide) (by rw [hs11]; decide) (by rw [hs11]; decide +kernel) (by decide) ?_
        refine lv_aload_n hx hb dL_law_357 rfl (lv_at hl 2 rfl) ?_
        refine bw_Vi (w := wdX cI hX a0 a1 a2 a3 g4 g5 g6 g7 g8 g9 g10 g11 g12 g13 g14 g15 g16 g17 r0 r1 r2 r3) (wr := wdM cI hM b0 b1 b2 b9 p3 p4 p5 p6 p7 p8 p10 p11 p12 p13 p14 p15 p16 p17 p18 v0 v1 v2 v9) (As := []) (rest := []) ⟨hx, hb, hml, hown, hts⟩ (ctX_conditions l D cI hX a0 a1 a2 a3 _ g4 g5 g6 g7 g8 g9 g10 g11 g12 g13 g14 g15 g16 g17 r0 r1 r2 r3) (cwV 0 hts gL_law_X0_conditions rfl rfl rfl (by decide +kernel) ⟨Nat.le_of_ble_eq_true rfl, Nat.le_of_ble_eq_true rfl⟩) hK hP hD hS hA (tbX_bl) (tbX_to hT hS (bw_free (wr := wdM cI hM b0 b1 b2 b9 p3 p4 p5 p6 p7 p8 p10 p11 p12 p13 p14 p15 p16 p17 p18 v0 v1 v2 v9) hD hS hA)) 0 rfl rfl rfl hl.1 rfl (Nat.le_of_ble_eq_true rfl) dL_law_358 ⟨Nat.le_of_ble_eq_true rfl, Nat.le_of_ble_eq_true rfl⟩ (fun q1 u1 H locs hu1 hP hD hS => ?_)
        replace hP := bw_swP hP
        replace hD := bw_swD hD
        refine lv_aload_n hx hb dL_law_361 rfl (lv_at hl 1 rfl) ?_
        refine bw_Vi (w := wdM cI hM b0 b1 b2 b9 p3 p4 p5 p6 p7 p8 p10 p11 p12 p13 p14 p15 p16 p17 p18 v0 v1 v2 v9) (wr := wfX cI hX a0 a1 a2 a3 u1) (As := []) (rest := [.int q1]) ⟨hx, hb, hml, hown, hts0⟩ (ctM_conditions l D cI hM b0 b1 b2 b9 _ p3 p4 p5 p6 p7 p8 p10 p11 p12 p13 p14 p15 p16 p17 p18 v0 v1 v2 v9) (cwV 0 hts0 gL_law_XM_conditions rfl rfl rfl (by decide +kernel) ⟨Nat.le_of_ble_eq_true rfl, Nat.le_of_ble_eq_true rfl⟩) hK hP hD hS hA (fun _ _ _ _ h => h) (fun _ _ _ => trivial) 0 rfl rfl rfl hl.1 rfl (Nat.le_of_ble_eq_true rfl) dL_law_362 ⟨Nat.le_of_ble_eq_true rfl, Nat.le_of_ble_eq_true rfl⟩ (fun q2 u2 H locs hu2 hP hD hS => ?_)
        obtain ⟨hq, hR2, hI2⟩ := ok_conditions hR hI hu1 hu2
        refine lv_icmp_eq (tgt := 461) hx hb dL_law_365 (by decide) (fun _ => ?_) (fun hne => absurd hq hne)
        exact J461 u1 u2 hR2 hI2 H locs (bw_swP hP) (bw_swD hD) hS
      by_cases hs12 : z = 12
      · refine lv_tableIn (off := 338) (tgt := 370) hx hb dL_law_32 (by rw [hs12]; decide) (by rw [hs12]; decide) (by rw [hs12]; decide +kernel) (by decide) ?_
        refine lv_aload_n hx hb dL_law_370 rfl (lv_at hl 2 rfl) ?_
        refine bw_Vi (w := wdX cI hX a0 a1 a2 a3 g4 g5 g6 g7 g8 g9 g10 g11 g12 g13 g14 g15 g16 g17 r0 r1 r2 r3) (wr := wdM cI hM b0 b1 b2 b9 p3 p4 p5 p6 p7 p8 p10 p11 p12 p13 p14 p15 p16 p17 p18 v0 v1 v2 v9) (As := []) (rest := []) ⟨hx, hb, hml, hown, hts⟩ (ctX_outputs l D cI hX a0 a1 a2 a3 _ g4 g5 g6 g7 g8 g9 g10 g11 g12 g13 g14 g15 g16 g17 r0 r1 r2 r3) (cwV 0 hts gL_law_X0_outputs rfl rfl rfl (by decide +kernel) ⟨Nat.le_of_ble_eq_true rfl, Nat.le_of_ble_eq_true rfl⟩) hK hP hD hS hA (tbX_bl) (tbX_to hT hS (bw_free (wr := wdM cI hM b0 b1 b2 b9 p3 p4 p5 p6 p7 p8 p10 p11 p12 p13 p14 p15 p16 p17 p18 v0 v1 v2 v9) hD hS hA)) 0 rfl rfl rfl hl.1 rfl (Nat.le_of_ble_eq_true rfl) dL_law_371 ⟨Nat.le_of_ble_eq_true rfl, Nat.le_of_ble_eq_true rfl⟩ (fun q1 u1 H locs hu1 hP hD hS => ?_)
        replace hP := bw_swP hP
        replace hD := bw_swD hD
        refine lv_aload_n hx hb dL_law_374 rfl (lv_at hl 1 rfl) ?_
        refine bw_Vi (w := wdM cI hM b0 b1 b2 b9 p3 p4 p5 p6 p7 p8 p10 p11 p12 p13 p14 p15 p16 p17 p18 v0 v1 v2 v9) (wr := wfX cI hX a0 a1 a2 a3 u1) (As := []) (rest := [.int q1]) ⟨hx, hb, hml, hown, hts0⟩ (ctM_outputs l D cI hM b0 b1 b2 b9 _ p3 p4 p5 p6 p7 p8 p10 p11 p12 p13 p14 p15 p16 p17 p18 v0 v1 v2 v9) (cwV 0 hts0 gL_law_XM_outputs rfl rfl rfl (by decide +kernel) ⟨Nat.le_of_ble_eq_true rfl, Nat.le_of_ble_eq_true rfl⟩) hK hP hD hS hA (fun _ _ _ _ h => h) (fun _ _ _ => trivial) 0 rfl rfl rfl hl.1 rfl (Nat.le_of_ble_eq_true rfl) dL_law_375 ⟨Nat.le_of_ble_eq_true rfl, Nat.le_of_ble_eq_true rfl⟩ (fun q2 u2 H locs hu2 hP hD hS => ?_)
        obtain ⟨hq, hR2, hI2⟩ := ok_outputs hR hI hu1 hu2
        refine lv_icmp_eq (tgt := 461) hx hb dL_law_378 (by decide) (fun _ => ?_) (fun hne => absurd hq hne)
        exact J461 u1 u2 hR2 hI2 H locs (bw_swP hP) (bw_swD hD) hS
      by_cases hs13 : z = 13
      · refine lv_tableIn (off := 351) (tgt := 383) hx hb dL_law_32 (by rw [hs13]; decide) (by rw [hs13]; decide) (by rw [hs13]; decide +kernel) (by decide) ?_
        refine lv_aload_n hx hb dL_law_383 rfl (lv_at hl 2 rfl) ?_
        refine bw_Vi (w := wdX cI hX a0 a1 a2 a3 g4 g5 g6 g7 g8 g9 g10 g11 g12 g13 g14 g15 g16 g17 r0 r1 r2 r3) (wr := wdM cI hM b0 b1 b2 b9 p3 p4 p5 p6 p7 p8 p10 p11 p12 p13 p14 p15 p16 p17 p18 v0 v1 v2 v9) (As := []) (rest := []) ⟨hx, hb, hml, hown, hts⟩ (ctX_effective l D cI hX a0 a1 a2 a3 _ g4 g5 g6 g7 g8 g9 g10 g11 g12 g13 g14 g15 g16 g17 r0 r1 r2 r3) (cwV 0 hts gL_law_X0_effective rfl rfl rfl (by decide +kernel) ⟨Nat.le_of_ble_eq_true rfl, Nat.le_of_ble_eq_true rfl⟩) hK hP hD hS hA (tbX_bl) (tbX_to hT hS (bw_free (wr := wdM cI hM b0 b1 b2 b9 p3 p4 p5 p6 p7 p8 p10 p11 p12 p13 p14 p15 p16 p17 p18 v0 v1 v2 v9) hD hS hA)) 0 rfl rfl rfl hl.1 rfl (Nat.le_of_ble_eq_true rfl) dL_law_384 ⟨Nat.le_of_ble_eq_true rfl, Nat.le_of_ble_eq_true rfl⟩ (fun q1 u1 H locs hu1 hP hD hS => ?_)
        replace hP := bw_swP hP
        replace hD := bw_swD hD
        refine lv_aload_n hx hb dL_law_387 rfl (lv_at hl 1 rfl) ?_
        refine bw_Vi (w := wdM cI hM b0 b1 b2 b9 p3 p4 p5 p6 p7 p8 p10 p11 p12 p13 p14 p15 p16 p17 p18 v0 v1 v2 v9) (wr := wfX cI hX a0 a1 a2 a3 u1) (As := []) (rest := [.int q1]) ⟨hx, hb, hml, hown, hts0⟩ (ctM_effective l D cI hM b0 b1 b2 b9 _ p3 p4 p5 p6 p7 p8 p10 p11 p12 p13 p14 p15 p16 p17 p18 v0 v1 v2 v9) (cwV 0 hts0 gL_law_XM_effective rfl rfl rfl (by decide +kernel) ⟨Nat.le_of_ble_eq_true rfl, Nat.le_of_ble_eq_true rfl⟩) hK hP hD hS hA (fun _ _ _ _ h => h) (fun _ _ _ => trivial) 0 rfl rfl rfl hl.1 rfl (Nat.le_of_ble_eq_true rfl) dL_law_388 ⟨Nat.le_of_ble_eq_true rfl, Nat.le_of_ble_eq_true rfl⟩ (fun q2 u2 H locs hu2 hP hD hS => ?_)
        obtain ⟨hq, hR2, hI2⟩ := ok_effective hR hI hu1 hu2
        refine lv_icmp_eq (tgt := 461) hx hb dL_law_391 (by decide) (fun _ => ?_) (fun hne => absurd hq hne)
        exact J461 u1 u2 hR2 hI2 H locs (bw_swP hP) (bw_swD hD) hS
      by_cases hs14 : z = 14
      · refine lv_tableIn (off := 364) (tgt := 396) hx hb dL_law_32 (by rw [hs14]; decide) (by rw [hs14]; decide) (by rw [hs14]; decide +kernel) (by decide) ?_
        refine lv_aload_n hx hb dL_law_396 rfl (lv_at hl 2 rfl) ?_
        refine bw_Vi (w := wdX cI hX a0 a1 a2 a3 g4 g5 g6 g7 g8 g9 g10 g11 g12 g13 g14 g15 g16 g17 r0 r1 r2 r3) (wr := wdM cI hM b0 b1 b2 b9 p3 p4 p5 p6 p7 p8 p10 p11 p12 p13 p14 p15 p16 p17 p18 v0 v1 v2 v9) (As := []) (rest := []) ⟨hx, hb, hml, hown, hts⟩ (ctX_accounted l D cI hX a0 a1 a2 a3 _ g4 g5 g6 g7 g8 g9 g10 g11 g12 g13 g14 g15 g16 g17 r0 r1 r2 r3) (cwV 0 hts gL_law_X0_accounted rfl rfl rfl (by decide +kernel) ⟨Nat.le_of_ble_eq_true rfl, Nat.le_of_ble_eq_true rfl⟩) hK hP hD hS hA (tbX_bl) (tbX_to hT hS (bw_free (wr := wdM cI hM b0 b1 b2 b9 p3 p4 p5 p6 p7 p8 p10 p11 p12 p13 p14 p15 p16 p17 p18 v0 v1 v2 v9) hD hS hA)) 0 rfl rfl rfl hl.1 rfl (Nat.le_of_ble_eq_true rfl) dL_law_397 ⟨Nat.le_of_ble_eq_true rfl, Nat.le_of_ble_eq_true rfl⟩ (fun q1 u1 H locs hu1 hP hD hS => ?_)
        replace hP := bw_swP hP
        replace hD := bw_swD hD
        refine lv_aload_n hx hb dL_law_400 rfl (lv_at hl 1 rfl) ?_
        refine bw_Vi (w := wdM cI hM b0 b1 b2 b9 p3 p4 p5 p6 p7 p8 p10 p11 p12 p13 p14 p15 p16 p17 p18 v0 v1 v2 v9) (wr := wfX cI hX a0 a1 a2 a3 u1) (As := []) (rest := [.int q1]) ⟨hx, hb, hml, hown, hts0⟩ (ctM_accounted l D cI hM b0 b1 b2 b9 _ p3 p4 p5 p6 p7 p8 p10 p11 p12 p13 p14 p15 p16 p17 p18 v0 v1 v2 v9) (cwV 0 hts0 gL_law_XM_accounted rfl rfl rfl (by decide +kernel) ⟨Nat.le_of_ble_eq_true rfl, Nat.le_of_ble_eq_true rfl⟩) hK hP hD hS hA (fun _ _ _ _ h => h) (fun _ _ _ => trivial) 0 rfl rfl rfl hl.1 rfl (Nat.le_of_ble_eq_true rfl) dL_law_401 ⟨Nat.le_of_ble_eq_true rfl, Nat.le_of_ble_eq_true rfl⟩ (fun q2 u2 H locs hu2 hP hD hS => ?_)
        obtain ⟨hq, hR2, hI2⟩ := ok_accounted hR hI hu1 hu2
        refine lv_icmp_eq (tgt := 461) hx hb dL_law_404 (by decide) (fun _ => ?_) (fun hne => absurd hq hne)
        exact J461 u1 u2 hR2 hI2 H locs (bw_swP hP) (bw_swD hD) hS
      by_cases hs15 : z = 15
      · refine lv_tableIn (off := 377) (tgt := 409) hx hb dL_law_32 (by rw [hs15]; decide) (by rw [hs15]; decide) (by rw [hs15]; decide +kernel) (by decide) ?_
        refine lv_aload_n hx hb dL_law_409 rfl (lv_at hl 2 rfl) ?_
        refine bw_Vi (w := wdX cI hX a0 a1 a2 a3 g4 g5 g6 g7 g8 g9 g10 g11 g12 g13 g14 g15 g16 g17 r0 r1 r2 r3) (wr := wdM cI hM b0 b1 b2 b9 p3 p4 p5 p6 p7 p8 p10 p11 p12 p13 p14 p15 p16 p17 p18 v0 v1 v2 v9) (As := []) (rest := []) ⟨hx, hb, hml, hown, hts⟩ (ctX_strokes l D cI hX a0 a1 a2 a3 _ g4 g5 g6 g7 g8 g9 g10 g11 g12 g13 g14 g15 g16 g17 r0 r1 r2 r3) (cwV 0 hts gL_law_X0_strokes rfl rfl rfl (by decide +kernel) ⟨Nat.le_of_ble_eq_true rfl, Nat.le_of_ble_eq_true rfl⟩) hK hP hD hS hA (tbX_bl) (tbX_to hT hS (bw_free (wr := wdM cI hM b0 b1 b2 b9 p3 p4 p5 p6 p7 p8 p10 p11 p12 p13 p14 p15 p16 p17 p18 v0 v1 v2 v9) hD hS hA)) 0 rfl rfl rfl hl.1 rfl (Nat.le_of_ble_eq_true rfl) dL_law_410 ⟨Nat.le_of_ble_eq_true rfl, Nat.le_of_ble_eq_true rfl⟩ (fun q1 u1 H locs hu1 hP hD hS => ?_)
        replace hP := bw_swP hP
        replace hD := bw_swD hD
        refine lv_aload_n hx hb dL_law_413 rfl (lv_at hl 1 rfl) ?_
        refine bw_Vi (w := wdM cI hM b0 b1 b2 b9 p3 p4 p5 p6 p7 p8 p10 p11 p12 p13 p14 p15 p16 p17 p18 v0 v1 v2 v9) (wr := wfX cI hX a0 a1 a2 a3 u1) (As := []) (rest := [.int q1]) ⟨hx, hb, hml, hown, hts0⟩ (ctM_strokes l D cI hM b0 b1 b2 b9 _ p3 p4 p5 p6 p7 p8 p10 p11 p12 p13 p14 p15 p16 p17 p18 v0 v1 v2 v9) (cwV 0 hts0 gL_law_XM_strokes rfl rfl rfl (by decide +kernel) ⟨Nat.le_of_ble_eq_true rfl, Nat.le_of_ble_eq_true rfl⟩) hK hP hD hS hA (fun _ _ _ _ h => h) (fun _ _ _ => trivial) 0 rfl rfl rfl hl.1 rfl (Nat.le_of_ble_eq_true rfl) dL_law_414 ⟨Nat.le_of_ble_eq_true rfl, Nat.le_of_ble_eq_true rfl⟩ (fun q2 u2 H locs hu2 hP hD hS => ?_)
        obtain ⟨hq, hR2, hI2⟩ := ok_strokes hR hI hu1 hu2
        refine lv_icmp_eq (tgt := 461) hx hb dL_law_417 (by decide) (fun _ => ?_) (fun hne => absurd hq hne)
        exact J461 u1 u2 hR2 hI2 H locs (bw_swP hP) (bw_swD hD) hS
      by_cases hs16 : z = 16
      · refine lv_tableIn (off := 390) (tgt := 422) hx hb dL_law_32 (by rw [hs16]; decide) (by rw [hs16]; decide) (by rw [hs16]; decide +kernel) (by decide) ?_
        refine lv_aload_n hx hb dL_law_422 rfl (lv_at hl 2 rfl) ?_
        refine bw_Vi (w := wdX cI hX a0 a1 a2 a3 g4 g5 g6 g7 g8 g9 g10 g11 g12 g13 g14 g15 g16 g17 r0 r1 r2 r3) (wr := wdM cI hM b0 b1 b2 b9 p3 p4 p5 p6 p7 p8 p10 p11 p12 p13 p14 p15 p16 p17 p18 v0 v1 v2 v9) (As := []) (rest := []) ⟨hx, hb, hml, hown, hts⟩ (ctX_trips l D cI hX a0 a1 a2 a3 _ g4 g5 g6 g7 g8 g9 g10 g11 g12 g13 g14 g15 g16 g17 r0 r1 r2 r3) (cwV 0 hts gL_law_X0_trips rfl rfl rfl (by decide +kernel) ⟨Nat.le_of_ble_eq_true rfl, Nat.le_of_ble_eq_true rfl⟩) hK hP hD hS hA (tbX_bl) (tbX_to hT hS (bw_free (wr := wdM cI hM b0 b1 b2 b9 p3 p4 p5 p6 p7 p8 p10 p11 p12 p13 p14 p15 p16 p17 p18 v0 v1 v2 v9) hD hS hA)) 0 rfl rfl rfl hl.1 rfl (Nat.le_of_ble_eq_true rfl) dL_law_423 ⟨Nat.le_of_ble_eq_true rfl, Nat.le_of_ble_eq_true rfl⟩ (fun q1 u1 H locs hu1 hP hD hS => ?_)
        replace hP := bw_swP hP
        replace hD := bw_swD hD
        refine lv_aload_n hx hb dL_law_426 rfl (lv_at hl 1 rfl) ?_
        refine bw_Vi (w := wdM cI hM b0 b1 b2 b9 p3 p4 p5 p6 p7 p8 p10 p11 p12 p13 p14 p15 p16 p17 p18 v0 v1 v2 v9) (wr := wfX cI hX a0 a1 a2 a3 u1) (As := []) (rest := [.int q1]) ⟨hx, hb, hml, hown, hts0⟩ (ctM_trips l D cI hM b0 b1 b2 b9 _ p3 p4 p5 p6 p7 p8 p10 p11 p12 p13 p14 p15 p16 p17 p18 v0 v1 v2 v9) (cwV 0 hts0 gL_law_XM_trips rfl rfl rfl (by decide +kernel) ⟨Nat.le_of_ble_eq_true rfl, Nat.le_of_ble_eq_true rfl⟩) hK hP hD hS hA (fun _ _ _ _ h => h) (fun _ _ _ => trivial) 0 rfl rfl rfl hl.1 rfl (Nat.le_of_ble_eq_true rfl) dL_law_427 ⟨Nat.le_of_ble_eq_true rfl, Nat.le_of_ble_eq_true rfl⟩ (fun q2 u2 H locs hu2 hP hD hS => ?_)
        obtain ⟨hq, hR2, hI2⟩ := ok_trips hR hI hu1 hu2
        refine lv_icmp_eq (tgt := 461) hx hb dL_law_430 (by decide) (fun _ => ?_) (fun hne => absurd hq hne)
        exact J461 u1 u2 hR2 hI2 H locs (bw_swP hP) (bw_swD hD) hS
      by_cases hs17 : z = 17
      · refine lv_tableIn (off := 403) (tgt := 435) hx hb dL_law_32 (by rw [hs17]; decide) (by rw [hs17]; decide) (by rw [hs17]; decide +kernel) (by decide) ?_
        refine lv_aload_n hx hb dL_law_435 rfl (lv_at hl 2 rfl) ?_
        refine bw_Vi (w := wdX cI hX a0 a1 a2 a3 g4 g5 g6 g7 g8 g9 g10 g11 g12 g13 g14 g15 g16 g17 r0 r1 r2 r3) (wr := wdM cI hM b0 b1 b2 b9 p3 p4 p5 p6 p7 p8 p10 p11 p12 p13 p14 p15 p16 p17 p18 v0 v1 v2 v9) (As := []) (rest := []) ⟨hx, hb, hml, hown, hts⟩ (ctX_counted l D cI hX a0 a1 a2 a3 _ g4 g5 g6 g7 g8 g9 g10 g11 g12 g13 g14 g15 g16 g17 r0 r1 r2 r3) (cwV 0 hts gL_law_X0_counted rfl rfl rfl (by decide +kernel) ⟨Nat.le_of_ble_eq_true rfl, Nat.le_of_ble_eq_true rfl⟩) hK hP hD hS hA (tbX_bl) (tbX_to hT hS (bw_free (wr := wdM cI hM b0 b1 b2 b9 p3 p4 p5 p6 p7 p8 p10 p11 p12 p13 p14 p15 p16 p17 p18 v0 v1 v2 v9) hD hS hA)) 0 rfl rfl rfl hl.1 rfl (Nat.le_of_ble_eq_true rfl) dL_law_436 ⟨Nat.le_of_ble_eq_true rfl, Nat.le_of_ble_eq_true rfl⟩ (fun q1 u1 H locs hu1 hP hD hS => ?_)
        replace hP := bw_swP hP
        replace hD := bw_swD hD
        refine lv_aload_n hx hb dL_law_439 rfl (lv_at hl 1 rfl) ?_
        refine bw_Vi (w := wdM cI hM b0 b1 b2 b9 p3 p4 p5 p6 p7 p8 p10 p11 p12 p13 p14 p15 p16 p17 p18 v0 v1 v2 v9) (wr := wfX cI hX a0 a1 a2 a3 u1) (As := []) (rest := [.int q1]) ⟨hx, hb, hml, hown, hts0⟩ (ctM_counted l D cI hM b0 b1 b2 b9 _ p3 p4 p5 p6 p7 p8 p10 p11 p12 p13 p14 p15 p16 p17 p18 v0 v1 v2 v9) (cwV 0 hts0 gL_law_XM_counted rfl rfl rfl (by decide +kernel) ⟨Nat.le_of_ble_eq_true rfl, Nat.le_of_ble_eq_true rfl⟩) hK hP hD hS hA (fun _ _ _ _ h => h) (fun _ _ _ => trivial) 0 rfl rfl rfl hl.1 rfl (Nat.le_of_ble_eq_true rfl) dL_law_440 ⟨Nat.le_of_ble_eq_true rfl, Nat.le_of_ble_eq_true rfl⟩ (fun q2 u2 H locs hu2 hP hD hS => ?_)
        obtain ⟨hq, hR2, hI2⟩ := ok_counted hR hI hu1 hu2
        refine lv_icmp_eq (tgt := 461) hx hb dL_law_443 (by decide) (fun _ => ?_) (fun hne => absurd hq hne)
        exact J461 u1 u2 hR2 hI2 H locs (bw_swP hP) (bw_swD hD) hS
      by_cases hs18 : z = 18
      · refine lv_tableIn (off := 416) (tgt := 448) hx hb dL_law_32 (by rw [hs18]; decide) (by rw [hs18]; decide) (by rw [hs18]; decide +kernel) (by decide) ?_
        refine lv_aload_n hx hb dL_law_448 rfl (lv_at hl 2 rfl) ?_
        refine bw_Vi (w := wdX cI hX a0 a1 a2 a3 g4 g5 g6 g7 g8 g9 g10 g11 g12 g13 g14 g15 g16 g17 r0 r1 r2 r3) (wr := wdM cI hM b0 b1 b2 b9 p3 p4 p5 p6 p7 p8 p10 p11 p12 p13 p14 p15 p16 p17 p18 v0 v1 v2 v9) (As := []) (rest := []) ⟨hx, hb, hml, hown, hts0⟩ (ctX_steady l D cI hX a0 a1 a2 a3 _ g4 g5 g6 g7 g8 g9 g10 g11 g12 g13 g14 g15 g16 g17 r0 r1 r2 r3) (cwV 0 hts0 gL_law_X0_steady rfl rfl rfl (by decide +kernel) ⟨Nat.le_of_ble_eq_true rfl, Nat.le_of_ble_eq_true rfl⟩) hK hP hD hS hA (tbX_bl) (tbX_to hT hS (bw_free (wr := wdM cI hM b0 b1 b2 b9 p3 p4 p5 p6 p7 p8 p10 p11 p12 p13 p14 p15 p16 p17 p18 v0 v1 v2 v9) hD hS hA)) 0 rfl rfl rfl hl.1 rfl (Nat.le_of_ble_eq_true rfl) dL_law_449 ⟨Nat.le_of_ble_eq_true rfl, Nat.le_of_ble_eq_true rfl⟩ (fun q1 u1 H locs hu1 hP hD hS => ?_)
        replace hP := bw_swP hP
        replace hD := bw_swD hD
        refine lv_aload_n hx hb dL_law_452 rfl (lv_at hl 1 rfl) ?_
        refine bw_Vi (w := wdM cI hM b0 b1 b2 b9 p3 p4 p5 p6 p7 p8 p10 p11 p12 p13 p14 p15 p16 p17 p18 v0 v1 v2 v9) (wr := wfX cI hX a0 a1 a2 a3 u1) (As := []) (rest := [.int q1]) ⟨hx, hb, hml, hown, hts0⟩ (ctM_steady l D cI hM b0 b1 b2 b9 _ p3 p4 p5 p6 p7 p8 p10 p11 p12 p13 p14 p15 p16 p17 p18 v0 v1 v2 v9) (cwV 0 hts0 gL_law_XM_steady rfl rfl rfl (by decide +kernel) ⟨Nat.le_of_ble_eq_true rfl, Nat.le_of_ble_eq_true rfl⟩) hK hP hD hS hA (fun _ _ _ _ h => h) (fun _ _ _ => trivial) 0 rfl rfl rfl hl.1 rfl (Nat.le_of_ble_eq_true rfl) dL_law_453 ⟨Nat.le_of_ble_eq_true rfl, Nat.le_of_ble_eq_true rfl⟩ (fun q2 u2 H locs hu2 hP hD hS => ?_)
        obtain ⟨hq, hR2, hI2⟩ := ok_steady hR hI hu1 hu2
        refine lv_icmp_eq (tgt := 461) hx hb dL_law_456 (by decide) (fun _ => ?_) (fun hne => absurd hq hne)
        exact J461 u1 u2 hR2 hI2 H locs (bw_swP hP) (bw_swD hD) hS
      refine lv_tableOut (tgt := 461) hx hb dL_law_32 (sw_out18 hs0 hs1 hs2 hs3 hs4 hs5 hs6 hs7 hs8 hs9 hs10 hs11 hs12 hs13 hs14 hs15 hs16 hs17 hs18) (by decide) ?_
      exact J461 (g4, g5, g6, g7, g8, g9, g10, g11, g12, g13, g14, g15, g16, g17, r0, r1, r2, r3) (p3, p4, p5, p6, p7, p8, p10, p11, p12, p13, p14, p15, p16, p17, p18, v0, v1, v2, v9) hR (inv_mono hI (by omega)) H locs hP hD hS
  exact JH 600 0 (by omega) (by omega) 0 0 0 0 (-1) 0 0 0 0 0 0 0 0 0 tPF tSF tSF (fun _ => 0) 0 0 0 0 (-1) 0 0 0 0 0 0 0 0 0 0 tPF tSF tSF (fun _ => 0) 0 rfl hR0 hV0 _ _ ls hl hP hD hS
