def R_law : String := "BloodCircuitChannelsLaw"
/-- What the given statement does not say, in its own words: the two static arrays that the constructor clones are of the class [I (it says so for arrays of enums). -/
def lw_more : Cond := .and (.exactly (.static RX0 "PARAMETER_AT_FIRST" "[I") "[I") (.exactly (.static RX0 "SENSOR_AT_FIRST" "[I") "[I")
theorem lw_more_cls {args : Array Value} {s : State} (h : lw_more.before args s = true) (nm : String) (hn : nm = "PARAMETER_AT_FIRST" ∨ nm = "SENSOR_AT_FIRST") (t : Nat) (cell : Cell) (cI : ClassId)
    (h1 : (Term.static RX0 nm "[I").eval args s none [] s = some (.ref t)) (h2 : s.heap[t]? = some cell) (h3 : s.vm.findClass "[I" = some cI) : cell.cls = cI := by
  have hq := flat_of_before _ h
  have hx : (Cond.exactly (.static RX0 nm "[I") "[I").before args s = true := by
    rcases hn with rfl | rfl
    · exact hq _ (by decide +kernel)
    · exact hq _ (by decide +kernel)
  obtain ⟨a, cQ, cl, kQ, ha, hQ, hcell, hkQ, hstat, hcls, -⟩ := Cond.exactly_spec hx
  have e1 : a = t := by
    have := ha.symm.trans h1
    simpa using this
  subst e1
  have e2 : cl = cell := by
    have := hcell.symm.trans h2
    simpa using this
  have e3 : cQ = cI := by
    have := hQ.symm.trans h3
    simpa using this
  rw [← e2, ← e3]
  exact hcls
def lw_P (b : Addr) (xs : List Int32) (args : Array Value) (s : State) : Prop := args = #[.ref b] ∧ s.IntsAt b xs ∧ xs.length ≤ 1536 ∧ (Jvm.Cond.and given_1 narrow_1).before args s = true ∧ lw_more.before args s = true
def lw_Q (_ : Array Value) (s : State) (o : Outcome) (t : State) : Prop := o = .returned (some (.int 1)) ∧ Framed s o t [] 600000 7302250
def lw_Z (below : List Frame) (a : Array Value) (s : State) : State → Prop := fun t => ∃ o, t.status = .running ∧ Ended t below o ∧ lw_Q a s o t
theorem lw_ret {p : Program} {l : Launch} {e : Env} {s : State} {m : MethodId} {below : List Frame} {meth : Method} {c : Code} {b : Nat} (hx : p.tables.exec = Jvm.exec) (hb : c.code = code) (hr : meth.sig.returnType = ret) (hlocks : meth.locks = false) {pc : Nat} {H : Heap} {ls : Array Slot} (hdg : decode code pc = .ok (.ireturn, 1)) : W p l e room_1 s m #[Value.ref b] below meth c H [] 600000 7302250 (lw_Z below #[Value.ref b] s) (F0 m pc ls [.int 1]) := by
  intro T hT X
  obtain ⟨fs, hret, hrun, hended, hW, hframe⟩ := X.leave (v := some (.int 1)) (hlocks := hlocks) (fun h => by rw [hr] at h; cases h)
  have hmeth' : T.vm.method? m = some meth := X.method'
  refine ⟨T.setFrames fs, ?_, .returned (some (.int 1)), hrun, hended, rfl, ⟨_, rfl⟩, hW, hframe⟩
  jvm_step X.here [X.here.top, hx, hb, hdg, hmeth', hr, ret, narrow_b1]
  (try refine ⟨rfl, ?_⟩); (try refine ⟨rfl, ?_⟩)
  first | (intro acts; rw [hret _ acts rfl rfl rfl]) | rw [hret _ _ rfl rfl rfl]
  exact Steps.refl _
def lw_At (p : Program) (s : State) (m : MethodId) (meth : Method) (c : Code) (b L : Nat) (xs : Nat → Int32) : Prop :=
  p.tables.exec = Jvm.exec ∧ c.code = code ∧ meth.sig.returnType = ret ∧ c.maxLocals = 4 ∧ s.vm.findClass R_law = some m.cls ∧ (∀ w ∈ lw_tbl, w.before #[Value.ref b] s = true) ∧ va_X b L xs s s.heap ∧ b < s.heap.size ∧ meth.locks = false ∧ (Jvm.Cond.and given_1 narrow_1).before #[Value.ref b] s = true
theorem sw_out18 {x : Int32} (h0 : ¬ x = 0) (h1 : ¬ x = 1) (h2 : ¬ x = 2) (h3 : ¬ x = 3) (h4 : ¬ x = 4) (h5 : ¬ x = 5) (h6 : ¬ x = 6) (h7 : ¬ x = 7) (h8 : ¬ x = 8) (h9 : ¬ x = 9) (h10 : ¬ x = 10) (h11 : ¬ x = 11) (h12 : ¬ x = 12) (h13 : ¬ x = 13) (h14 : ¬ x = 14) (h15 : ¬ x = 15) (h16 : ¬ x = 16) (h17 : ¬ x = 17) (h18 : ¬ x = 18) : x.toInt < 0 ∨ 18 < x.toInt := by
  have e : ∀ (z : Int32) (n : Int), z.toInt = n → ¬ x = z → ¬ x.toInt = n := fun z n hz h q => h (Int32.toInt_inj.mp (by rw [hz]; exact q))
  have e0 := e 0 0 rfl h0
  have e1 := e 1 1 rfl h1
  have e2 := e 2 2 rfl h2
  have e3 := e 3 3 rfl h3
  have e4 := e 4 4 rfl h4
  have e5 := e 5 5 rfl h5
  have e6 := e 6 6 rfl h6
  have e7 := e 7 7 rfl h7
  have e8 := e 8 8 rfl h8
  have e9 := e 9 9 rfl h9
  have e10 := e 10 10 rfl h10
  have e11 := e 11 11 rfl h11
  have e12 := e 12 12 rfl h12
  have e13 := e 13 13 rfl h13
  have e14 := e 14 14 rfl h14
  have e15 := e 15 15 rfl h15
  have e16 := e 16 16 rfl h16
  have e17 := e 17 17 rfl h17
  have e18 := e 18 18 rfl h18
  omega
