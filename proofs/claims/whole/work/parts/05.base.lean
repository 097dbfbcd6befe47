abbrev SX : Type := Int32 × Int32 × Int32 × Int32 × Int32 × Int32 × Int32 × Int32 × Int32 × Int32 × Int32 × Int32 × Int32 × Int32 × (Nat → Int32) × (Nat → Int32) × (Nat → Int32) × (Nat → Int32)
abbrev wdX (cI : ClassId) (h0 a0 a1 a2 a3 : Nat) (g4 g5 g6 g7 g8 g9 g10 g11 g12 g13 g14 g15 g16 g17 : Int32) (r0 r1 r2 r3 : Nat → Int32) : va_W := [(h0, .inr (0, [.ref a0, .ref a1, .ref a2, .ref a3, .int g4, .int g5, .int g6, .int g7, .int g8, .int g9, .int g10, .int g11, .int g12, .int g13, .int g14, .int g15, .int g16, .int g17])), (a0, .inl (cI, 10, .inl r0)), (a1, .inl (cI, 6, .inl r1)), (a2, .inl (cI, 6, .inl r2)), (a3, .inl (cI, 6, .inl r3))]
abbrev wfX (cI : ClassId) (h0 a0 a1 a2 a3 : Nat) : SX → va_W := fun u => match u with
  | (g4, g5, g6, g7, g8, g9, g10, g11, g12, g13, g14, g15, g16, g17, r0, r1, r2, r3) => wdX cI h0 a0 a1 a2 a3 g4 g5 g6 g7 g8 g9 g10 g11 g12 g13 g14 g15 g16 g17 r0 r1 r2 r3
abbrev SM : Type := Int32 × Int32 × Int32 × Int32 × Int32 × Int32 × Int32 × Int32 × Int32 × Int32 × Int32 × Int32 × Int32 × Int32 × Int32 × (Nat → Int32) × (Nat → Int32) × (Nat → Int32) × (Nat → Int32)
abbrev wdM (cI : ClassId) (h0 a0 a1 a2 a9 : Nat) (g3 g4 g5 g6 g7 g8 g10 g11 g12 g13 g14 g15 g16 g17 g18 : Int32) (r0 r1 r2 r9 : Nat → Int32) : va_W := [(h0, .inr (1, [.ref a0, .ref a1, .ref a2, .int g3, .int g4, .int g5, .int g6, .int g7, .int g8, .ref a9, .int g10, .int g11, .int g12, .int g13, .int g14, .int g15, .int g16, .int g17, .int g18])), (a0, .inl (cI, 10, .inl r0)), (a1, .inl (cI, 6, .inl r1)), (a2, .inl (cI, 6, .inl r2)), (a9, .inl (cI, 6, .inl r9))]
abbrev wfM (cI : ClassId) (h0 a0 a1 a2 a9 : Nat) : SM → va_W := fun u => match u with
  | (g3, g4, g5, g6, g7, g8, g10, g11, g12, g13, g14, g15, g16, g17, g18, r0, r1, r2, r9) => wdM cI h0 a0 a1 a2 a9 g3 g4 g5 g6 g7 g8 g10 g11 g12 g13 g14 g15 g16 g17 g18 r0 r1 r2 r9
section BWA
variable {p : Program} {l : Launch} {e : Env} {R : Room} {s : State} {m : MethodId} {args : Array Value} {below : List Frame} {meth : Method} {c : Code} {H : Heap} {locs : List Loc} {cells slots : Nat} {Q : State → Prop}
variable {cc : ByteArray} {pc : Nat} {ls : Array Slot} {rest : List Value} {D : va_G} {cl : List vw_C} {A : Nat → Prop} {H0 : Heap} {tys : List (ClassId × FieldType)}
theorem bw_Q {Q0 : State → Prop} {g : JFrame} (h : ∀ Q, Q = Q0 → W p l e R s m args below meth c H locs cells slots Q g) : W p l e R s m args below meth c H locs cells slots Q0 g := h Q0 rfl
theorem bw_in {i : Int32} {n : Nat} (h : decide (¬ (i < 0 ∨ n ≤ i.toNatClampNeg)) = true) : vp_in i n := show ¬ (i < 0 ∨ n ≤ i.toNatClampNeg) from of_decide_eq_true h
theorem bw_inc1 (x : Int32) : x + Int32.ofInt 1 = x + 1 := by
  rw [show Int32.ofInt 1 = (1 : Int32) from by decide +kernel]
theorem bw_nx {x : Int32} {N k : Nat} (h : x = nI (N - (k + 1))) (hk : k + 1 ≤ N) : x + 1 = nI (N - k) := by
  rw [h, nI_1, show N - (k + 1) + 1 = N - k by omega]
theorem bw_ld (hexec : p.tables.exec = Jvm.exec) (hb : c.code = cc) {ws : va_W} {a : Nat} (hK : va_K D cl tys s) (hP : va_P D cl ws H) (q0 t0 : Nat) {cA : ClassId} {n : Nat} {f : Nat → Int32} (ha : ws[q0]? = some (a, .inl (cA, n, .inl f))) (ht : tys[t0]? = some (cA, .int)) {i : Int32} (j : Nat) (hj : i.toNatClampNeg = j) (hin : vp_in i n) (hdg : decode cc pc = .ok (.iaload, 1))
    (kk : W p l e R s m args below meth c H locs cells slots Q (F0 m (pc + 1) ls (.int (f j) :: rest))) : W p l e R s m args below meth c H locs cells slots Q (F0 m pc ls (.int i :: .ref a :: rest)) := by
  subst hj
  exact va_iald hexec hb hK hP q0 t0 ha ht hin hdg kk
end BWA
def bw_pr (D : va_G) (cl : List vw_C) (tys : List (ClassId × FieldType)) (w : va_W) (sz : Nat) (Ex : State → Prop) (U : State) : Prop := U.heap.size = sz ∧ va_P D cl w U.heap ∧ va_K D cl tys U ∧ va_D (fun _ => True) w ∧ Ex U
def bw_at {S : Type} (D : va_G) (cl : List vw_C) (tys : List (ClassId × FieldType)) (wf : S → va_W) (A : Nat → Prop) (u : S) (t : State) : Prop := va_P D cl (wf u) t.heap ∧ va_K D cl tys t ∧ va_D A (wf u)
section BWB
variable {p : Program} {l : Launch} {e : Env} {R : Room} {s : State} {m : MethodId} {args : Array Value} {below : List Frame} {meth : Method} {c : Code} {H : Heap} {locs : List Loc} {cells slots : Nat} {Q : State → Prop}
variable {cc : ByteArray} {pc : Nat} {ls : Array Slot} {rest : List Value} {D : va_G} {cl : List vw_C} {A : Nat → Prop} {H0 : Heap} {tys : List (ClassId × FieldType)}
theorem bw_right {α : Type} {wr w : List α} {k : Nat} {q : α} (h : w[k]? = some q) : (wr ++ w)[wr.length + k]? = some q := by
  rw [List.getElem?_append_right (by omega), Nat.add_sub_cancel_left]
  exact h
theorem bw_left {α : Type} {wr w : List α} {k : Nat} {q : α} (h : wr[k]? = some q) : (wr ++ w)[k]? = some q := by
  rw [List.getElem?_append_left (List.getElem?_eq_some_iff.mp h).1]
  exact h
theorem bw_free {wr w : va_W} (hD : va_D A (wr ++ w)) (hS : va_S A H0 H locs) (hA : ∀ q, H0.size ≤ q → A q) : ∀ q, va_A w H.size q → A q := by
  intro q h
  rcases h with ⟨k, e1, h⟩ | h
  · exact hD.2 _ (q, e1) (bw_right h)
  · exact hA q (Nat.le_trans hS.1 h)
theorem bw_join {wr w w1 : va_W} {H1 : Heap} (hP : va_P D cl (wr ++ w) H) (hD : va_D A (wr ++ w)) (hk : ∀ q : Nat, q < H.size → ¬ va_A w H.size q → H1[q]? = H[q]?) (hF : ∀ q, va_A w H.size q → A q) (hP1 : va_P D cl w1 H1) (hD1 : va_D (va_A w H.size) w1) : va_P D cl (wr ++ w1) H1 ∧ va_D A (wr ++ w1) := by
  have ap : ∀ (k : Nat) (q : Nat × va_E), wr[k]? = some q → q.1 < H.size ∧ ¬ va_A w H.size q.1 := by
    intro k q hq
    have hl := (hP k q (bw_left hq)).lt
    refine ⟨hl, fun h => ?_⟩
    rcases h with ⟨j, e1, h⟩ | h
    · have h3 := hD.1 _ _ q (q.1, e1) (bw_left hq) (bw_right h) rfl
      have h4 := (List.getElem?_eq_some_iff.mp hq).1
      omega
    · omega
  refine ⟨va_P.app (fun k q hq => (hP k q (bw_left hq)).kept (hk q.1 (ap k q hq).1 (ap k q hq).2)) hP1, va_D.app ⟨fun i j x y hi hj hxy => hD.1 i j x y (bw_left hi) (bw_left hj) hxy, fun k q hq => hD.2 k q (bw_left hq)⟩ (hD1.weaken (fun k q _ h => hF q.1 h)) (fun i j x y hx hy hxy => ?_)⟩
  exact (ap i x hx).2 (by rw [hxy]; exact hD1.2 j y hy)
theorem bw_bl {av : List Value} {w : va_W} {sz : Nat} {Ex : State → Prop} (hE : ∀ (U : State) (g : JFrame) (mk : MethodId) (a : Array Value), Ex U → Ex (U.calling g mk a)) : FrameBlind (va_Pc av (bw_pr D cl tys w sz Ex)) := by
  intro a U g mk q
  obtain ⟨q0, q1, qP, qK, qD, qE⟩ := q
  exact ⟨q0, q1, qP, va_K.moved (u := U) (U := U.calling g mk a) (Vm.Alike.refl U.vm) qK, qD, hE U g mk a qE⟩
theorem bw_pw {wr w : va_W} (hP : va_P D cl (wr ++ w) H) : va_P D cl w H := fun _ _ hk => hP _ _ (bw_right hk)
theorem bw_dw {wr w : va_W} (hD : va_D A (wr ++ w)) : va_D (fun _ => True) w := ⟨fun i j x y hi hj hxy => by
  have h := hD.1 _ _ x y (bw_right hi) (bw_right hj) hxy
  omega, fun _ _ _ => trivial⟩
theorem bw_Vi {S : Type} {wf : S → va_W} {post : Int32 → S → Prop} {w wr : va_W} {Ex : State → Prop} {y : MethodName} {bytes : ByteArray} {maxL nL n index : Nat} {ret : Option FieldType} {ws Ts : List Cond} {rm : Room} {own C : String} {b : Nat} {As st0 : List Value}
    (Sx : CallFix p m c cc nL s args Ts own) (hM : Met l y ws rm (va_Pc (Value.ref b :: As) (bw_pr D cl tys w H.size Ex)) (va_Qi post (bw_at D cl tys wf (va_A w H.size)) (va_A w H.size)) 0 0 (va_A w H.size)) (cw : CallW R s args own C index y bytes maxL ret ws rm 0 0 n)
    (hK : va_K D cl tys s) (hP : va_P D cl (wr ++ w) H) (hD : va_D A (wr ++ w)) (hS : va_S A H0 H locs) (hA : ∀ q, H0.size ≤ q → A q)
    (hbl : ∀ (U : State) (g : JFrame) (mk : MethodId) (a : Array Value), Ex U → Ex (U.calling g mk a)) (hEx : ∀ U : State, U.heap = H → s.WarmedH U.vm → Ex U)
    {ci N : Nat} {T : u_T} {fs : List Value} (q0 : Nat) (he : w[q0]? = some (b, .inr (ci, fs))) (hc : cl[ci]? = some (C, T, N))
    (hn : As.length = n) (hsize : ls.size = nL) (hst : st0 = As.reverse ++ Value.ref b :: rest) (hW : (rest.map fun v => v.category).sum ≤ 8) (hdg : decode cc pc = .ok (.invokevirtual index, 3)) (hf : cells ≤ R.cells ∧ slots ≤ R.slots)
    (kk : ∀ (r : Int32) (u : S) (H1 : Heap) (locs1 : List Loc), post r u → va_P D cl (wr ++ wf u) H1 → va_D A (wr ++ wf u) → va_S A H0 H1 locs1 → W p l e R s m args below meth c H1 locs1 cells slots Q (F0 m (pc + 3) ls (.int r :: rest))) : W p l e R s m args below meth c H locs cells slots Q (F0 m pc ls st0) := by
  subst hst
  have hF := bw_free (wr := wr) hD hS hA
  refine va_calli (va_runV (b := b) (As := As) (rest := rest) Sx hM cw ⟨bw_bl hbl, va_recv hK (bw_pw hP) hc he, fun U hU hW1 => ⟨rfl, by rw [hU], by rw [hU]; exact bw_pw hP, va_K.moved hW1.alike hK, bw_dw hD, hEx U hU hW1⟩⟩ rfl hn hsize rfl (lv_room hW) hdg hf) hS (fun q _ h => hF q h) hF (fun r u t H1 locs1 ht hvm hpost hB hz hk hS1 => ?_)
  obtain ⟨hP1, hK1, hD1⟩ := hB
  rw [ht] at hP1
  obtain ⟨hP2, hD2⟩ := bw_join hP hD hk hF hP1 hD1
  exact kk r u H1 locs1 hpost hP2 hD2 hS1
theorem bw_Vv {S : Type} {wf : S → va_W} {post : S → Prop} {w wr : va_W} {Ex : State → Prop} {y : MethodName} {bytes : ByteArray} {maxL nL n index : Nat} {ret : Option FieldType} {ws Ts : List Cond} {rm : Room} {own C : String} {b : Nat} {As st0 : List Value}
    (Sx : CallFix p m c cc nL s args Ts own) (hM : Met l y ws rm (va_Pc (Value.ref b :: As) (bw_pr D cl tys w H.size Ex)) (va_Qv post (bw_at D cl tys wf (va_A w H.size)) (va_A w H.size)) 0 0 (va_A w H.size)) (cw : CallW R s args own C index y bytes maxL ret ws rm 0 0 n)
    (hK : va_K D cl tys s) (hP : va_P D cl (wr ++ w) H) (hD : va_D A (wr ++ w)) (hS : va_S A H0 H locs) (hA : ∀ q, H0.size ≤ q → A q)
    (hbl : ∀ (U : State) (g : JFrame) (mk : MethodId) (a : Array Value), Ex U → Ex (U.calling g mk a)) (hEx : ∀ U : State, U.heap = H → s.WarmedH U.vm → Ex U)
    {ci N : Nat} {T : u_T} {fs : List Value} (q0 : Nat) (he : w[q0]? = some (b, .inr (ci, fs))) (hc : cl[ci]? = some (C, T, N))
    (hn : As.length = n) (hsize : ls.size = nL) (hst : st0 = As.reverse ++ Value.ref b :: rest) (hW : (rest.map fun v => v.category).sum ≤ 8) (hdg : decode cc pc = .ok (.invokevirtual index, 3)) (hf : cells ≤ R.cells ∧ slots ≤ R.slots)
    (kk : ∀ (u : S) (H1 : Heap) (locs1 : List Loc), post u → va_P D cl (wr ++ wf u) H1 → va_D A (wr ++ wf u) → va_S A H0 H1 locs1 → W p l e R s m args below meth c H1 locs1 cells slots Q (F0 m (pc + 3) ls rest)) : W p l e R s m args below meth c H locs cells slots Q (F0 m pc ls st0) := by
  subst hst
  have hF := bw_free (wr := wr) hD hS hA
  refine va_callv (va_runV (b := b) (As := As) (rest := rest) Sx hM cw ⟨bw_bl hbl, va_recv hK (bw_pw hP) hc he, fun U hU hW1 => ⟨rfl, by rw [hU], by rw [hU]; exact bw_pw hP, va_K.moved hW1.alike hK, bw_dw hD, hEx U hU hW1⟩⟩ rfl hn hsize rfl (lv_room hW) hdg hf) hS (fun q _ h => hF q h) hF (fun u t H1 locs1 ht hvm hpost hB hz hk hS1 => ?_)
  obtain ⟨hP1, hK1, hD1⟩ := hB
  rw [ht] at hP1
  obtain ⟨hP2, hD2⟩ := bw_join hP hD hk hF hP1 hD1
  exact kk u H1 locs1 hpost hP2 hD2 hS1
theorem bw_Si {v : Int32} {w : va_W} {y : MethodName} {bytes : ByteArray} {maxL nL n index : Nat} {ret : Option FieldType} {ws Ts : List Cond} {rm : Room} {own : String} {As st0 : List Value}
    (Sx : CallFix p m c cc nL s args Ts own) (hM : Met l y ws rm (va_Pc As (fun U => U.heap.size = H.size)) (va_Qi (fun r (_ : Unit) => r = v) (fun _ _ => True) (va_A [] H.size)) 0 0 (va_A [] H.size)) (cw : CallB R s args own index y bytes maxL ret ws rm 0 0 n ∧ (Cond.static y).before args s = true)
    (hP : va_P D cl w H) (hS : va_S A H0 H locs) (hA : ∀ q, H0.size ≤ q → A q)
    (hn : As.length = n) (hsize : ls.size = nL) (hst : st0 = As.reverse ++ rest) (hW : (rest.map fun v => v.category).sum ≤ 8) (hdg : decode cc pc = .ok (.invokestatic index, 3)) (hf : cells ≤ R.cells ∧ slots ≤ R.slots)
    (kk : ∀ (H1 : Heap) (locs1 : List Loc), va_P D cl w H1 → va_S A H0 H1 locs1 → W p l e R s m args below meth c H1 locs1 cells slots Q (F0 m (pc + 3) ls (.int v :: rest))) : W p l e R s m args below meth c H locs cells slots Q (F0 m pc ls st0) := by
  subst hst
  have hN : ∀ q : Nat, va_A [] H.size q → H.size ≤ q := fun q h => by
    rcases h with ⟨k, e1, h⟩ | h
    · simp at h
    · exact h
  have hF : ∀ q, va_A [] H.size q → A q := fun q h => hA q (Nat.le_trans hS.1 (hN q h))
  refine va_calli (va_runS (As := As) (rest := rest) Sx hM cw ⟨fun a U g mk q => q, fun U hU hW1 => ⟨rfl, congrArg Array.size hU⟩⟩ rfl hn hsize rfl (lv_room hW) hdg hf) hS (fun q _ h => hF q h) hF (fun r u t H1 locs1 ht hvm hpost hB hz hk hS1 => ?_)
  subst hpost
  exact kk H1 locs1 (hP.kept (fun k q hq => hk q.1 (hP k q hq).lt (fun h => absurd (hN q.1 h) (Nat.not_le.mpr (hP k q hq).lt)))) hS1
end BWB
def tPL (j : Nat) : Int32 := ([50, 0, 0, 1, 340, 1250, -400, -300, 0, 50] : List Int32).getD j 0
def tPG (j : Nat) : Int32 := ([600, 6000, 2000, 600, 390, 1600, 0, 200, 200, 500] : List Int32).getD j 0
def tSL (j : Nat) : Int32 := ([-700, -200, 0, 0, 0, 0] : List Int32).getD j 0
def tSG (j : Nat) : Int32 := ([500, 800, 600, 3000, 1, 1] : List Int32).getD j 0
def tb_T (U : State) (H : Heap) (A : Nat → Prop) (nm : String) (N : Nat) (f : Nat → Int32) : Prop := ∃ t : Nat, va_Z RX0 nm "[I" (.ref t) A U H ∧ va_T .int t N (fun j => .int (f j)) A U H
def tbX (A : Nat → Prop) (U : State) : Prop := tb_T U U.heap A "PARAMETER_LEAST" 10 tPL ∧ tb_T U U.heap A "PARAMETER_GREATEST" 10 tPG ∧ tb_T U U.heap A "SENSOR_LEAST" 6 tSL ∧ tb_T U U.heap A "SENSOR_GREATEST" 6 tSG
theorem tb_mv {s U : State} {H : Heap} {A A1 : Nat → Prop} {locs : List Loc} {nm : String} {N : Nat} {f : Nat → Int32} (h : tb_T s s.heap A nm N f) (hS : va_S A s.heap H locs) (hF : ∀ q, A1 q → A q) (hvm : s.vm.Alike U.vm) (hU : U.heap = H) : tb_T U U.heap A1 nm N f := by
  obtain ⟨t, h1, h2⟩ := h
  rw [hU]
  exact ⟨t, ((h1.kept hS.2.1).narrow hF).moved hvm, ((h2.kept hS.2.1).narrow hF).moved hvm⟩
theorem tbX_to {s : State} {H : Heap} {A A1 : Nat → Prop} {locs : List Loc} (h : tbX A s) (hS : va_S A s.heap H locs) (hF : ∀ q, A1 q → A q) : ∀ U : State, U.heap = H → s.WarmedH U.vm → tbX A1 U := fun _ hU hW => ⟨tb_mv h.1 hS hF hW.alike hU, tb_mv h.2.1 hS hF hW.alike hU, tb_mv h.2.2.1 hS hF hW.alike hU, tb_mv h.2.2.2 hS hF hW.alike hU⟩
theorem tbX_bl {A : Nat → Prop} (U : State) (g : JFrame) (mk : MethodId) (a : Array Value) (h : tbX A U) : tbX A (U.calling g mk a) := by
  have hS : va_S A U.heap U.heap [] := va_S.rf
  have hvm : U.vm.Alike (U.calling g mk a).vm := Vm.Alike.refl U.vm
  exact ⟨tb_mv h.1 hS (fun _ h => h) hvm rfl, tb_mv h.2.1 hS (fun _ h => h) hvm rfl, tb_mv h.2.2.1 hS (fun _ h => h) hvm rfl, tb_mv h.2.2.2 hS (fun _ h => h) hvm rfl⟩
