/-! a row of rows made: the machine's own step, told by what stands after i rows -/
def x_mIn (cI : ClassId) (M : Nat) : Cell := arrV cI M (fun _ => .int 0)
def x_mOut (cA : ClassId) (N h i : Nat) : Cell := arrV cA N (fun j => va_rf (if j < i then some (h + 1 + j) else none))
theorem x_mOut_s (cA : ClassId) (N h i : Nat) : (x_mOut cA N h i).setSlot i (.ref (h + 1 + i)) = x_mOut cA N h (i + 1) := by
  unfold x_mOut
  rw [arrV_store]
  refine congrArg (arrV cA N) (funext fun j => ?_)
  unfold updV
  by_cases c : j = i
  · rw [if_pos c, if_pos (by omega), c]
    rfl
  · rw [if_neg c]
    show va_rf (if j < i then some (h + 1 + j) else none) = _
    by_cases c2 : j < i
    · rw [if_pos c2, if_pos (by omega)]
    · rw [if_neg c2, if_neg (by omega)]
section XMU
variable {p : Program} {l : Launch} {e : Env} {R : Room} {s : State} {m : MethodId} {args : Array Value} {below : List Frame} {meth : Method} {c : Code} {H : Heap} {locs : List Loc} {cells slots : Nat} {cA cI : ClassId} {N M : Nat} {vm1 : Vm}
def x_mUp (p : Program) (l : Launch) (e : Env) (R : Room) (s : State) (m : MethodId) (args : Array Value) (below : List Frame) (meth : Method) (c : Code) (H : Heap) (locs : List Loc) (cells slots : Nat) (cA cI : ClassId) (N M : Nat) (vm1 : Vm) (i : Nat) (U : State) : Prop :=
  Stand p l e R s m args below meth c U (locs ++ (List.range i).map fun j => ⟨H.size, j⟩) (cells + 1 + i) (slots + N + i * M) ∧ U.vm = vm1 ∧ U.heap.size = H.size + 1 + i ∧ U.heap[H.size]? = some (x_mOut cA N H.size i) ∧ (∀ j, j < i → U.heap[H.size + 1 + j]? = some (x_mIn cI M)) ∧ ∀ a, a < H.size → U.heap[a]? = H[a]?
theorem x_mUp_0 {U : State} (X : Stand p l e R s m args below meth c U locs cells slots) (hv : U.vm = vm1) (hH : U.heap = H) : x_mUp p l e R s m args below meth c H locs cells slots cA cI N M vm1 0 (U.pushCell (x_mOut cA N H.size 0)) := by
  have Y := X.pushed (x_mOut cA N H.size 0)
  have hs : (x_mOut cA N H.size 0).slots.size = N := arrV_size _ _ _
  rw [hs] at Y
  refine ⟨?_, hv, ?_, ?_, fun j hj => absurd hj (Nat.not_lt_zero j), fun a ha => ?_⟩
  · rw [List.range_zero, List.map_nil, List.append_nil, Nat.zero_mul]
    exact Y
  · rw [State.heap_size_pushCell, hH]
  · rw [← hH]
    exact State.heap_pushCell_size _ _
  · rw [State.heap_pushCell_of_lt (h := by rw [hH]; exact ha), hH]
theorem x_mUp_s {U : State} {i : Nat} (h : x_mUp p l e R s m args below meth c H locs cells slots cA cI N M vm1 i U) : x_mUp p l e R s m args below meth c H locs cells slots cA cI N M vm1 (i + 1) ((U.pushCell (x_mIn cI M)).setCell H.size ((x_mOut cA N H.size i).setSlot i (.ref U.heap.size))) := by
  obtain ⟨X, hv, hz, ho, hn, hk⟩ := h
  have hc : (U.pushCell (x_mIn cI M)).heap[H.size]? = some (x_mOut cA N H.size i) := by
    have hlt : H.size < U.heap.size := by omega
    rw [State.heap_pushCell_of_lt (h := hlt)]; exact ho
  have Y := (X.pushed (x_mIn cI M)).stored hc i (.ref U.heap.size)
  have hs : (x_mIn cI M).slots.size = M := arrV_size _ _ _
  rw [hs] at Y
  refine ⟨?_, hv, ?_, ?_, fun j hj => ?_, fun a ha => ?_⟩
  · have e1 : (locs ++ (List.range (i + 1)).map fun j => (⟨H.size, j⟩ : Loc)) = (locs ++ (List.range i).map fun j => (⟨H.size, j⟩ : Loc)) ++ [⟨H.size, i⟩] := by
      rw [List.range_succ, List.map_append, List.append_assoc]; rfl
    have e2 : slots + N + (i + 1) * M = slots + N + i * M + M := by rw [Nat.succ_mul, ← Nat.add_assoc]
    rw [e1, e2]
    exact Y
  · show ((U.pushCell (x_mIn cI M)).heap.setIfInBounds H.size _).size = _
    rw [Array.size_setIfInBounds, State.heap_size_pushCell, hz]
    rfl
  · rw [State.heap_setCell_self hc, hz, x_mOut_s]
  · rw [State.heap_setCell_other (show H.size ≠ H.size + 1 + j by omega)]
    by_cases w : j < i
    · have hlt : H.size + 1 + j < U.heap.size := by omega
      rw [State.heap_pushCell_of_lt (h := hlt)]; exact hn j w
    · have hj' : H.size + 1 + j = U.heap.size := by omega
      rw [hj']
      exact State.heap_pushCell_size _ _
  · have hlt : a < U.heap.size := by omega
    rw [State.heap_setCell_other (show H.size ≠ a by omega), State.heap_pushCell_of_lt (h := hlt)]
    exact hk a ha
/-- the state with i rows -/
def x_mSt (cA cI : ClassId) (N M h : Nat) (U : State) : Nat → State
  | 0 => U.pushCell (x_mOut cA N h 0)
  | i + 1 => ((x_mSt cA cI N M h U i).pushCell (x_mIn cI M)).setCell h ((x_mOut cA N h i).setSlot i (.ref (x_mSt cA cI N M h U i).heap.size))
theorem x_mUp_n {U : State} (X : Stand p l e R s m args below meth c U locs cells slots) : ∀ i, x_mUp p l e R s m args below meth c U.heap locs cells slots cA cI N M U.vm i (x_mSt cA cI N M U.heap.size U i)
  | 0 => x_mUp_0 X rfl rfl
  | i + 1 => x_mUp_s (x_mUp_n X i)
section XMW
variable {E : CtlPost} {d : Bool} {acts : List Action} {f : JFrame} {kA kC : Class} {cc : ClassId} {n k : Int32}
/-- one row of numbers -/
theorem x_wpRow {u : State} (hkC : u.vm.classes[cI]? = some kC) (hkc : kC.kind = .array cc .int) (hk : ¬ k < 0) (hl : ¬ k.toNatClampNeg > e.platform.arrayLengthLimit) (hh : ¬ k.toNatClampNeg * 4 > e.platform.maxHeapBytes) (h1 : u.heap.size < e.platform.maxCells) (h2 : u.slotsUsed + k.toNatClampNeg ≤ e.platform.maxSlots) {Q : Addr → Pre} (hq : ∀ acts', Q u.heap.size d acts' (u.pushCell (x_mIn cI k.toNatClampNeg))) :
    wp (multianewarray.make cI [k]) Q E e d acts u := by
  rw [multianewarray.make]
  simp only [wp_bind', W.ite, hk, if_false, wp_pure', W.theClass, hkC, hkc, Option.some.injEq, exists_eq_left']
  refine W.newArray_of hkC hkc hl hh h1 h2 rfl (fun acts' => ?_)
  have h := hq acts'
  unfold x_mIn at h
  rw [← arrV_new] at h
  exact h
/-- the row of rows -/
theorem x_wpMake {U : State} (X : Stand p l e R s m args below meth c U locs cells slots) (hv : U.vm = vm1) (hkA : vm1.classes[cA]? = some kA) (hka : kA.kind = .array cI (.array .int)) (hkC : vm1.classes[cI]? = some kC) (hkc : kC.kind = .array cc .int) (hn : ¬ n < 0) (hk : ¬ k < 0)
    (hl1 : ¬ n.toNatClampNeg > e.platform.arrayLengthLimit) (hh1 : ¬ n.toNatClampNeg * 4 > e.platform.maxHeapBytes) (hl2 : ¬ k.toNatClampNeg > e.platform.arrayLengthLimit) (hh2 : ¬ k.toNatClampNeg * 4 > e.platform.maxHeapBytes)
    (hcells : cells + (1 + n.toNatClampNeg) ≤ R.cells) (hslots : slots + (n.toNatClampNeg + n.toNatClampNeg * k.toNatClampNeg) ≤ R.slots) {Q : Addr → Pre}
    (hq : ∀ d' acts', Q U.heap.size d' acts' ((x_mSt cA cI n.toNatClampNeg k.toNatClampNeg U.heap.size U n.toNatClampNeg).setTop f)) :
    wp (multianewarray.make cA [n, k]) Q E e d acts (U.setTop f) := by
  obtain ⟨r1, r2⟩ := X.roomAbove hcells hslots
  have hfind : ([k].find? (· < 0)) = none := by simp [hk]
  subst hv
  rw [multianewarray.make]
  simp only [wp_bind', W.ite, hn, if_false, wp_pure', W.theClass, State.vm_setTop, hkA, hka, Option.some.injEq, exists_eq_left']
  refine W.newArray_of (k := kA) (comp := cI) (type := .array .int) hkA hka hl1 hh1 (by show U.heap.size < _; omega) (by show U.slotsUsed + _ ≤ _; omega) rfl (fun acts' => ?_)
  simp only [hfind]
  rw [ite_self, wp_bind', Std.Legacy.Range.forIn_eq_forIn_range']
  have hsz : ([:n.toNatClampNeg] : Std.Legacy.Range).size = n.toNatClampNeg := by simp [Std.Legacy.Range.size]
  rw [hsz]
  have e0 : ((U.setTop f).pushCell { cls := cA, slots := Array.replicate n.toNatClampNeg Value.null } : State) = (U.pushCell (x_mOut cA n.toNatClampNeg U.heap.size 0)).setTop f := by
    show (U.pushCell _).setTop f = _
    refine congrArg (fun c => (U.pushCell c).setTop f) ?_
    refine (arrV_new cA n.toNatClampNeg .null).trans (congrArg (arrV cA n.toNatClampNeg) (funext fun j => ?_))
    rw [if_neg (Nat.not_lt_zero j)]
    rfl
  rw [e0]
  refine wp_forIn_inv (fun rest s' => ∃ (i : Nat), i ≤ n.toNatClampNeg ∧ rest = List.range' i (n.toNatClampNeg - i) ∧ s' = (x_mSt cA cI n.toNatClampNeg k.toNatClampNeg U.heap.size U i).setTop f) _ _ ⟨0, Nat.zero_le _, rfl, rfl⟩ ?_ ?_
  · rintro x rest s' d' a' Q' ⟨i, hi, hl, rfl⟩ hnext
    have hlt : i < n.toNatClampNeg := by
      refine Nat.lt_of_le_of_ne hi fun w => ?_
      rw [w, Nat.sub_self] at hl
      cases hl
    rw [show n.toNatClampNeg - i = (n.toNatClampNeg - (i + 1)) + 1 by omega, List.range'_succ] at hl
    obtain ⟨hx, hrest⟩ := List.cons.inj hl
    subst hx
    obtain ⟨XV, hv, hz, ho, -, -⟩ := x_mUp_n (cA := cA) (cI := cI) (N := n.toNatClampNeg) (M := k.toNatClampNeg) X x
    generalize hV : x_mSt cA cI n.toNatClampNeg k.toNatClampNeg U.heap.size U x = V at XV hv hz ho
    have hmul : x * k.toNatClampNeg + k.toNatClampNeg ≤ n.toNatClampNeg * k.toNatClampNeg := by
      rw [← Nat.succ_mul]; exact Nat.mul_le_mul_right _ hlt
    obtain ⟨q1, q2⟩ := XV.roomAbove (a := 1) (b := k.toNatClampNeg) (by omega) (by omega)
    have hs : (x_mOut cA n.toNatClampNeg U.heap.size x).slots.size = n.toNatClampNeg := arrV_size _ _ _
    simp only [wp_bind']
    refine x_wpRow (u := V.setTop f) (kC := kC) (cc := cc) (by rw [State.vm_setTop, hv]; exact hkC) hkc hk hl2 hh2 (by show V.heap.size < _; omega) (by show V.slotsUsed + _ ≤ _; omega) (fun a2 => ?_)
    simp only [wp_bind', W.writeLoc, wp_pure']
    refine ⟨x_mOut cA n.toNatClampNeg U.heap.size x, ?_, (show VmData.none ≠ VmData.unknown from fun w => by cases w), (by rw [hs]; exact hlt), ?_, hnext _ _ _ ⟨x + 1, hlt, hrest, by rw [x_mSt, hV]; rfl⟩⟩
    · show (V.pushCell (x_mIn cI k.toNatClampNeg)).heap[U.heap.size]? = _
      have hlt0 : U.heap.size < V.heap.size := by omega
      rw [State.heap_pushCell_of_lt (h := hlt0)]
      exact ho
    · show ((V.setTop f).pushCell (x_mIn cI k.toNatClampNeg)).fitsSlot cA .none x (.ref V.heap.size) = true
      simp [State.fitsSlot, State.slotType?, hv, hkA, hka]
      rfl
  · rintro s' d' a' ⟨i, hi, hl, rfl⟩
    have hiN : i = n.toNatClampNeg := by
      refine Nat.le_antisymm hi (Nat.le_of_not_lt fun w => ?_)
      rw [show n.toNatClampNeg - i = (n.toNatClampNeg - (i + 1)) + 1 by omega, List.range'_succ] at hl
      cases hl
    subst hiN
    simp only [wp_pure']
    exact hq _ _
end XMW
end XMU
theorem x_Wmulti {p : Program} {l : Launch} {e : Env} {R : Room} {s : State} {m : MethodId} {args : Array Value} {below : List Frame} {meth : Method} {c : Code} {H : Heap} {locs : List Loc} {cells slots : Nat} {Q : State → Prop} {cc : ByteArray} {pc : Nat} {ls : Array Slot} {rest : List Value} (hexec : p.tables.exec = Jvm.exec) (hb : c.code = cc) {own : String} {idx : Nat} (hown : s.vm.findClass own = some m.cls) (hclink : (Cond.classLink own idx "[[I").before args s = true) (hover : (Cond.arrayOver (.array .int)).before args s = true) (harr : (Cond.arrayClass .int).before args s = true) (hdg : decode cc pc = .ok (.multianewarray idx 2, 4)) {n k : Int32} {N M : Nat} (hn : ¬ n < 0) (hk : ¬ k < 0) (hN : n.toNatClampNeg = N) (hM : k.toNatClampNeg = M) (hb1 : N * 4 ≤ 536870912) (hb2 : M * 4 ≤ 536870912) (hcells : cells + (1 + N) ≤ R.cells) (hslots : slots + (N + N * M) ≤ R.slots)
    (kk : ∀ (cA comp : ClassId) (H1 : Heap), s.vm.findClass "[[I" = some cA → s.vm.findClass "[I" = some comp → H1.size = H.size + 1 + N → H1[H.size]? = some (x_mOut cA N H.size N) → (∀ j, j < N → H1[H.size + 1 + j]? = some (x_mIn comp M)) → (∀ a, a < H.size → H1[a]? = H[a]?) → W p l e R s m args below meth c H1 (locs ++ (List.range N).map fun j => ⟨H.size, j⟩) (cells + 1 + N) (slots + N + N * M) Q (F0 m (pc + 4) ls (.ref H.size :: rest))) :
    W p l e R s m args below meth c H locs cells slots Q (F0 m pc ls (.int k :: .int n :: rest)) := by
  subst hN
  subst hM
  intro T hT X
  subst hT
  subst hb
  have hpl : e.platform.magicAccessors = ({} : Platform).magicAccessors := by rw [X.admits.platform]
  obtain ⟨cI, kC, cc, hcI, hkC, hkc⟩ := Cond.arrayClass_spec harr
  obtain ⟨cJ, cA, kA, hcJ, -, hkA, hka, hnA⟩ := arrayOverA_spec hover
  have eJ : cJ = cI := Option.some.inj (hcJ.symm.trans hcI)
  subst eJ
  have hnA : s.vm.findClass "[[I" = some cA := hnA
  obtain ⟨c0, hfc0, hcl⟩ := Cond.classLink_spec hown hclink e.platform hpl
  cases hnA.symm.trans hfc0
  obtain ⟨hg1, hw1, -⟩ := State.classEntry (e := e) X.warmed hcl
  generalize T.vm.noted m.cls idx (.cls cA) = vm1 at hg1 hw1
  obtain ⟨kA1, hkA1, heA⟩ := hw1.alike.2.2 _ _ hkA
  obtain ⟨kC1, hkC1, heC⟩ := hw1.alike.2.2 _ _ hkC
  have X1 := X.noted hw1
  obtain ⟨XV, hv, hz, ho, hin, hold⟩ := x_mUp_n (cA := cA) (cI := cJ) (N := n.toNatClampNeg) (M := k.toNatClampNeg) X1 n.toNatClampNeg
  obtain ⟨t, a1, b1⟩ := kk cA cJ _ hnA hcI hz ho hin hold _ rfl XV
  refine ⟨t, ?_, b1⟩
  have hl1 : ¬ n.toNatClampNeg > e.platform.arrayLengthLimit := by rw [Launch.admits_arrayLengthLimit X.admits]; omega
  have hh1 : ¬ n.toNatClampNeg * 4 > e.platform.maxHeapBytes := by rw [Launch.admits_maxHeapBytes X.admits]; omega
  have hl2 : ¬ k.toNatClampNeg > e.platform.arrayLengthLimit := by rw [Launch.admits_arrayLengthLimit X.admits]; omega
  have hh2 : ¬ k.toNatClampNeg * 4 > e.platform.maxHeapBytes := by rw [Launch.admits_maxHeapBytes X.admits]; omega
  jvm_step X.here [hexec, hdg]
  simp only [multianewarray.sem, wp_bind', W.resolveClassAt_links (State.method?_setTop (F0 m pc ls (Value.int k :: Value.int n :: rest)) X.here.top) hg1]
  rw [W.popN, if_neg (by decide)]
  refine ⟨F0 m pc ls (Value.int k :: Value.int n :: rest), State.topJava?_setTop' (s := T.setVm vm1) _ X.here.top, [.int n, .int k], rest, rfl, rfl, ?_⟩
  simp only [List.mapM_cons, List.mapM_nil, wp_bind', wp_pure']
  have e1 : ((T.setTop (F0 m pc ls (Value.int k :: Value.int n :: rest))).setVm vm1).setTop { method := m, pc := pc, locals := ls, stack := rest, locked := none } = (T.setVm vm1).setTop { method := m, pc := pc, locals := ls, stack := rest, locked := none } := by
    show ((T.setVm vm1).setTop _).setTop _ = _
    rw [State.setTop_setTop]
  rw [e1]
  refine x_wpMake X1 rfl hkA1 (by rw [heA]; exact hka) hkC1 (by rw [heC]; exact hkc) hn hk hl1 hh1 hl2 hh2 hcells hslots (fun d' acts' => ?_)
  simp only [wp_bind', W.mark, W.pushRef, State.topJava?_setTop' _ XV.here.top, Option.some.injEq, exists_eq_left', State.setTop_setTop, State.heap_setTop]
  intro acts
  simp [jvm, XV.here.top]
  exact a1

