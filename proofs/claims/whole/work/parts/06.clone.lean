section BWC
variable {p : Program} {l : Launch} {e : Env} {R : Room} {s : State} {m : MethodId} {args : Array Value} {below : List Frame} {meth : Method} {c : Code} {H : Heap} {locs : List Loc} {cells slots : Nat} {Q : State → Prop}
variable {cc : ByteArray} {pc : Nat} {ls : Array Slot} {rest : List Value} {D : va_G} {cl : List vw_C} {A : Nat → Prop} {H0 : Heap} {tys : List (ClassId × FieldType)}
theorem bw_swP {w1 w2 : va_W} (h : va_P D cl (w1 ++ w2) H) : va_P D cl (w2 ++ w1) H := va_P.app (bw_pw h) (fun _ _ hk => h _ _ (bw_left hk))
theorem bw_swD {w1 w2 : va_W} (h : va_D A (w1 ++ w2)) : va_D A (w2 ++ w1) := by
  refine va_D.app ⟨fun i j x y hi hj hxy => ?_, fun k q hk => h.2 _ _ (bw_right hk)⟩ ⟨fun i j x y hi hj hxy => h.1 i j x y (bw_left hi) (bw_left hj) hxy, fun k q hk => h.2 _ _ (bw_left hk)⟩ (fun i j x y hi hj hxy => ?_)
  · have h1 := h.1 _ _ x y (bw_right hi) (bw_right hj) hxy
    omega
  · have h1 := h.1 _ _ x y (bw_right hi) (bw_left hj) hxy
    have h2 := (List.getElem?_eq_some_iff.mp hj).1
    omega
theorem bw_cI {cI cA : ClassId} (h : va_K D cl ([(cI, .int)] ++ [(cA, .int)]) s) : cA = cI := by
  have h1 : s.vm.findClass ("[" ++ FieldType.int.toString) = some cI := (h.2 0 _ rfl).2
  have h2 : s.vm.findClass ("[" ++ FieldType.int.toString) = some cA := (h.2 1 _ rfl).2
  exact Option.some.inj (h2.symm.trans h1)
def te_T (U : State) (H : Heap) (A : Nat → Prop) (nm : String) (N : Nat) (f : Nat → Int32) (cI : ClassId) : Prop := ∃ (t : Nat) (cell : Cell), va_Z RX0 nm "[I" (.ref t) A U H ∧ H[t]? = some cell ∧ cell.cls = cI ∧ cell.vm ≠ .unknown ∧ (∀ k, cell.vm ≠ .statics k) ∧ cell.slots = (arrV cI N (fun j => .int (f j))).slots ∧ ¬ A t
theorem bw_clone (hexec : p.tables.exec = Jvm.exec) (hb : c.code = cc) (hml : c.maxLocals = ls.size) {own : String} {index : Nat} (hown : s.vm.findClass own = some m.cls)
    (hlink : (Cond.methodLink own index ⟨"[I", "clone", "()Ljava/lang/Object;"⟩).before args s = true) (hsame : (Cond.sameMethod "[I" "java/lang/Object" "clone" "()Ljava/lang/Object;").before args s = true)
    (hnat : (Cond.native ⟨"java/lang/Object", "clone", "()Ljava/lang/Object;"⟩).before args s = true) (hinst : (Cond.instanceMethod ⟨"java/lang/Object", "clone", "()Ljava/lang/Object;"⟩).before args s = true)
    (hsel : (Cond.selects "[I" ⟨"[I", "clone", "()Ljava/lang/Object;"⟩ ⟨"java/lang/Object", "clone", "()Ljava/lang/Object;"⟩).before args s = true) (hcl : va_Nw (.castable "[I" "java/lang/Cloneable") s)
    {ws : va_W} (hK : va_K D cl tys s) (hP : va_P D cl ws H) (hD : va_D A ws) (hS : va_S A s.heap H locs) (hA : ∀ q, s.heap.size ≤ q → A q) (t0 : Nat) {cI : ClassId} (ht : tys[t0]? = some (cI, .int))
    {t N : Nat} {f : Nat → Int32} {cell : Cell} (h1 : s.heap[t]? = some cell) (h2 : cell.cls = cI) (h3 : cell.vm ≠ .unknown) (h4 : ∀ k, cell.vm ≠ .statics k) (h5 : cell.slots = (arrV cI N (fun j => .int (f j))).slots) (h6 : ¬ A t)
    (hframes : 1 ≤ R.frames) (hlocals : (rest.map fun v => v.category).sum + 14 ≤ R.locals) (hcells : cells + 1 ≤ R.cells) (hslots : slots + N ≤ R.slots) (hdg : decode cc pc = .ok (.invokevirtual index, 3))
    (kk : ∀ (q : Nat) (H1 : Heap), va_P D cl (ws ++ [(q, .inl (cI, N, .inl f))]) H1 → va_D A (ws ++ [(q, .inl (cI, N, .inl f))]) → va_S A s.heap H1 locs →
      W p l e R s m args below meth c H1 locs (cells + 1) (slots + N) Q (F0 m (pc + 3) ls (.ref q :: rest))) : W p l e R s m args below meth c H locs cells slots Q (F0 m pc ls (.ref t :: rest)) := by
  have hnm : s.vm.findClass "[I" = some cI := va_nm_int (hK.2 t0 _ ht).2
  have hsz : cell.slots.size = N := by rw [h5]; exact arrV_size _ _ _
  have hcellE : ({ cls := cell.cls, slots := cell.slots } : Cell) = vp_cell cI (N, .inl f) := by rw [h2, h5]; rfl
  obtain ⟨c0, t0', f1, f2, f3⟩ := Cond.castable_spec (va_Nw.use (A := args) rfl hcl)
  cases hnm.symm.trans f1
  intro T hT X
  have hcellT : T.heap[t]? = some cell := by rw [hT, hS.2.1 t (Array.getElem?_eq_some_iff.mp h1).1 h6]; exact h1
  obtain ⟨-, kA, hkA, comp, hkind⟩ := State.isArrayOf_alike X.warmed.alike ((hK.2 t0 _ ht).1 0 (fun _ => .null))
  obtain ⟨-, kS, hkS, compS, hkindS⟩ := (hK.2 t0 _ ht).1 0 (fun _ => .null)
  obtain ⟨vm', X', st⟩ := X.cloneArray hexec hown hlink hsame hnat hinst hsel (a := t) (cell := cell) hcellT h4 h3 (by rw [h2]; exact hnm) f2 (by rw [h2]; exact f3)
    (fun i v hv => by
      rw [h2]
      have hk' : T.vm.classes[cI]? = some kA := hkA
      have hfit : fits .int v = true := va_fit (cA := cI) (n := N) (F := fun j => .int (f j)) (ty := .int) (fun _ _ => rfl) i v (by rw [← h5]; exact hv)
      simpa [State.fitsSlot, State.slotType?, hk', hkind] using hfit)
    (g := F0 m pc ls (.ref t :: rest)) rfl (by rw [hml]) rfl (by rw [hb]; exact hdg) hframes (by show 2 * 0 + _ + 14 ≤ _; omega) hcells (by rw [hsz]; exact hslots) (hloader := by rw [h2]; exact Vm.clonesLoader_of_array hkS hkindS)
  rw [hcellE, hsz] at X'
  generalize hH1 : H.push (vp_cell cI (N, .inl f)) = H1
  have z1 : H1.size = H.size + 1 := by rw [← hH1, Array.size_push]
  have e1 : H1[H.size]? = some (vp_cell cI (N, .inl f)) := by rw [← hH1, Array.getElem?_push_size]
  have o1 : ∀ q : Nat, q < H.size → H1[q]? = H[q]? := fun q hq => by rw [← hH1, Array.getElem?_push, if_neg (Nat.ne_of_lt hq)]
  have hk : ∀ (k : Nat) (y : Nat × va_E), ws[k]? = some y → H1[y.1]? = H[y.1]? := fun k y hy => o1 y.1 ((hP k y hy).lt)
  obtain ⟨tt, b1, b2⟩ := kk H.size H1 ((hP.kept hk).app (fun k y hy => by
      have hz : k < 1 := (List.getElem?_eq_some_iff.mp hy).1
      rw [show k = 0 by omega] at hy
      cases hy
      exact e1)) (hD.push hP rfl (hA _ hS.1)) ⟨Nat.le_trans hS.1 (by omega), fun y g1 g2 => (o1 y (Nat.lt_of_lt_of_le g1 hS.1)).trans (hS.2.1 y g1 g2), hS.2.2⟩
    ((T.setVm vm').pushCell (vp_cell cI (N, .inl f))) (by rw [← hH1, ← hT]; rfl) X'
  refine ⟨tt, st tt ?_, b2⟩
  rw [hcellE, hT]
  exact b1
end BWC
def tPF (j : Nat) : Int32 := ([300, 0, 1000, 240, 370, 1400, -200, 100, 50, 300] : List Int32).getD j 0
def tSF (j : Nat) : Int32 := ([0, 100, 370, 1400, 0, 0] : List Int32).getD j 0
def tiX (A : Nat → Prop) (cI : ClassId) (U : State) : Prop := te_T U U.heap A "PARAMETER_AT_FIRST" 10 tPF cI ∧ te_T U U.heap A "SENSOR_AT_FIRST" 6 tSF cI ∧ va_Nw (.castable "[I" "java/lang/Cloneable") U
def sX_init : SX := (0, 0, 0, 0, (-1), 0, 0, 0, 0, 0, 0, 0, 0, 0, tPF, tSF, tSF, fun _ => 0)
