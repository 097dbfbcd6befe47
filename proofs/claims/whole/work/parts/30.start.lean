theorem len_lt {tm : Term} {args : Array Value} {s : State} {t : Nat} {cell : Cell} {v : Value} (ht : tm.eval args s none [] s = some (.ref t)) (hat : s.arrayAt? t = some cell) (hle : (Term.length tm).eval args s none [] s = some v) : cell.slots.size < 2 ^ 31 := by
  simp only [Term.eval, ht, hat, Option.bind_eq_bind, Option.bind_some] at hle
  by_cases h : cell.slots.size < 2 ^ 31
  · exact h
  · rw [if_neg h] at hle
    cases hle
theorem tb_of {args : Array Value} {s : State} {A : Nat → Prop} {nm : String} {N : Nat} {f : Nat → Int32} (hN : N < 2 ^ 31) (hl : (Cond.laysStatic RX0 nm "[I").before args s = true) (hini : (Cond.initialized RX0).before args s = true) (harr : (Cond.arrayOf (.static RX0 nm "[I") .int).before args s = true) (hlen : (Cond.eq (.length (.static RX0 nm "[I")) (.int (Int32.ofNat N))).before args s = true) (hel : ∀ j : Nat, j < N → (Cond.eq (.elem (.static RX0 nm "[I") (.int (Int32.ofNat j))) (.int (f j))).before args s = true) (hA : ∀ a : Nat, a < s.heap.size → ¬ A a) : tb_T s s.heap A nm N f := by
  obtain ⟨t, h1, h2⟩ := va_Tof (f := fun j => .int (f j)) hN harr (va_eqt hlen) (fun j hj => va_eqt (hel j hj)) hA
  exact ⟨t, va_Zof hl hini h1 hA, h2⟩
theorem te_of {args : Array Value} {s : State} {A : Nat → Prop} {nm : String} {N : Nat} {f : Nat → Int32} {cI : ClassId} (hN : N < 2 ^ 31) (hl : (Cond.laysStatic RX0 nm "[I").before args s = true) (hini : (Cond.initialized RX0).before args s = true) (harr : (Cond.arrayOf (.static RX0 nm "[I") .int).before args s = true) (hlen : (Cond.eq (.length (.static RX0 nm "[I")) (.int (Int32.ofNat N))).before args s = true) (hel : ∀ j : Nat, j < N → (Cond.eq (.elem (.static RX0 nm "[I") (.int (Int32.ofNat j))) (.int (f j))).before args s = true) (hA : ∀ a : Nat, a < s.heap.size → ¬ A a)
    (hO : ∀ (t : Nat) (cell : Cell), (Term.static RX0 nm "[I").eval args s none [] s = some (.ref t) → s.heap[t]? = some cell → cell.cls = cI) : te_T s s.heap A nm N f cI := by
  have hle := va_eqt hlen
  obtain ⟨t, h1, cell, q1, q2, q3, q4, q5, q6, q7⟩ := va_Tof (f := fun j => .int (f j)) hN harr hle (fun j hj => va_eqt (hel j hj)) hA
  obtain ⟨t2, cell2, ht, hat, hv⟩ := Term.length_spec hle
  cases h1.symm.trans ht
  obtain ⟨hcell, -, -, -⟩ := State.arrayAt?_spec hat
  cases q1.symm.trans hcell
  have hlt : cell.slots.size < 2 ^ 31 := len_lt ht hat hle
  have hsz : cell.slots.size = N := by
    have h9 : nI cell.slots.size = nI N := q5
    exact (nI_eq hlt hN).mp h9
  refine ⟨t, cell, va_Zof hl hini h1 hA, q1, hO t cell h1 q1, q3, q2.1, ?_, q7⟩
  apply Array.ext_getElem?
  intro i
  by_cases hi : i < N
  · rw [q6 i hi, arrV_read _ _ hi]
  · rw [Array.getElem?_eq_none (by omega), Array.getElem?_eq_none (by rw [arrV_size]; omega)]
section BWI
variable {p : Program} {l : Launch} {e : Env} {R : Room} {s : State} {m : MethodId} {args : Array Value} {below : List Frame} {meth : Method} {c : Code} {H : Heap} {locs : List Loc} {cells slots : Nat} {Q : State → Prop}
variable {cc : ByteArray} {pc : Nat} {ls : Array Slot} {rest : List Value} {D : va_G} {cl : List vw_C} {A : Nat → Prop} {H0 : Heap} {tys : List (ClassId × FieldType)}
theorem bw_Iv {S : Type} {wf : S → va_W} {post : S → Prop} {w wr : va_W} {Ex : State → Prop} {y : MethodName} {bytes : ByteArray} {maxL nL n index mc ms : Nat} {ws Ts : List Cond} {rm : Room} {own : String} {b : Nat} {As st0 : List Value}
    (Sx : CallFix p m c cc nL s args Ts own) (hM : Met l y ws rm (va_Pc (Value.ref b :: As) (bw_pr D cl tys w H.size Ex)) (va_Qv post (bw_at D cl tys wf (va_A w H.size)) (va_A w H.size)) mc ms (va_A w H.size)) (cw : CallB R s args own index y bytes maxL none ws rm mc ms n ∧ y.name = "<init>" ∧ (Cond.instanceMethod y).before args s = true)
    (hK : va_K D cl tys s) (hP : va_P D cl (wr ++ w) H) (hD : va_D A (wr ++ w)) (hS : va_S A H0 H locs) (hA : ∀ q, H0.size ≤ q → A q)
    (hbl : ∀ (U : State) (g : JFrame) (mk : MethodId) (a : Array Value), Ex U → Ex (U.calling g mk a)) (hEx : ∀ U : State, U.heap = H → s.WarmedH U.vm → Ex U)
    (hn : As.length = n) (hsize : ls.size = nL) (hst : st0 = As.reverse ++ Value.ref b :: rest) (hW : (rest.map fun v => v.category).sum ≤ 8) (hdg : decode cc pc = .ok (.invokespecial index, 3)) (hf : cells + mc ≤ R.cells ∧ slots + ms ≤ R.slots)
    (kk : ∀ (u : S) (H1 : Heap) (locs1 : List Loc), post u → va_P D cl (wr ++ wf u) H1 → va_D A (wr ++ wf u) → va_S A H0 H1 locs1 → W p l e R s m args below meth c H1 locs1 (cells + mc) (slots + ms) Q (F0 m (pc + 3) ls rest)) : W p l e R s m args below meth c H locs cells slots Q (F0 m pc ls st0) := by
  subst hst
  have hF := bw_free (wr := wr) hD hS hA
  refine va_callv (va_runI (b := b) (As := As) (rest := rest) Sx hM cw ⟨bw_bl hbl, fun U hU hW1 => ⟨rfl, by rw [hU], by rw [hU]; exact bw_pw hP, va_K.moved hW1.alike hK, bw_dw hD, hEx U hU hW1⟩⟩ rfl hn hsize rfl (lv_room hW) hdg hf) hS (fun q _ h => hF q h) hF (fun u t H1 locs1 ht hvm hpost hB hz hk hS1 => ?_)
  obtain ⟨hP1, hK1, hD1⟩ := hB
  rw [ht] at hP1
  obtain ⟨hP2, hD2⟩ := bw_join hP hD hk hF hP1 hD1
  exact kk u H1 locs1 hpost hP2 hD2 hS1
end BWI
theorem te_mv {s U : State} {H : Heap} {A A1 : Nat → Prop} {locs : List Loc} {nm : String} {N : Nat} {f : Nat → Int32} {cI : ClassId} (h : te_T s s.heap A nm N f cI) (hS : va_S A s.heap H locs) (hF : ∀ q, A1 q → A q) (hvm : s.vm.Alike U.vm) (hU : U.heap = H) : te_T U U.heap A1 nm N f cI := by
  obtain ⟨t, cell, h1, h2, h3, h4, h5, h6, h7⟩ := h
  rw [hU]
  exact ⟨t, cell, ((h1.kept hS.2.1).narrow hF).moved hvm, by rw [hS.2.1 t (Array.getElem?_eq_some_iff.mp h2).1 h7]; exact h2, h3, h4, h5, h6, fun z => h7 (hF t z)⟩
theorem tiX_to {s : State} {H : Heap} {A A1 : Nat → Prop} {locs : List Loc} {cI : ClassId} (h : tiX A cI s) (hS : va_S A s.heap H locs) (hF : ∀ q, A1 q → A q) : ∀ U : State, U.heap = H → s.WarmedH U.vm → tiX A1 cI U := fun _ hU hW => ⟨te_mv h.1 hS hF hW.alike hU, te_mv h.2.1 hS hF hW.alike hU, va_Nw.warmC hW h.2.2⟩
theorem tiX_bl {A : Nat → Prop} {cI : ClassId} (U : State) (g : JFrame) (mk : MethodId) (a : Array Value) (h : tiX A cI U) : tiX A cI (U.calling g mk a) := by
  have hS : va_S A U.heap U.heap [] := va_S.rf
  have hvm : U.vm.Alike (U.calling g mk a).vm := Vm.Alike.refl U.vm
  exact ⟨te_mv h.1 hS (fun _ h => h) hvm rfl, te_mv h.2.1 hS (fun _ h => h) hvm rfl, va_Nw.same rfl rfl h.2.2⟩
