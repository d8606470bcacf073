/-! rows: a row of numbers is laid into a row of rows -/
theorem lo_I : Cond.arrayOver (.array .int) ∈ lw_tbl := tt_1 (List.mem_of_getElem? (i := 183) rfl)
theorem x_asgR (vm : Vm) (a : ClassId) : vm.assignable a a = true := by
  unfold Vm.assignable
  rw [Vm.assignableAux]
  simp
theorem x_overI {s : State} {D : va_G} {cy : Nat → ClassId} (hK : va_K D vwCl (x_tys cy) s) (he : x_env s) : ∃ kA : Class, s.vm.classes[cy 18]? = some kA ∧ kA.kind = .array (cy 13) (.array .int) ∧ ∃ kE : Class, s.vm.classes[cy 13]? = some kE := by
  have h := he _ lo_I rfl
  have e1 : s.vm.findClass "[I" = some (cy 13) := (hK.2 0 _ rfl).2
  have e2 : s.vm.findClass "[[I" = some (cy 18) := (hK.2 5 _ rfl).2
  obtain ⟨kE, hkE, -⟩ := Vm.findClass_spec e1
  unfold va_Nw Cond.before Cond.holds at h
  simp only [Cond.value] at h
  have e3 : s.vm.findClass (FieldType.array FieldType.int).toString = some (cy 13) := e1
  rw [e3] at h
  simp only [Option.bind_some] at h
  have h := eq_of_beq h
  obtain ⟨c, hf, h⟩ := Option.bind_eq_some_iff.mp h
  obtain ⟨kc, hget, h⟩ := Option.map_eq_some_iff.mp h
  obtain ⟨hlt, hc, -⟩ := Array.findIdx?_eq_some_iff_getElem.mp hf
  have hkc : s.vm.classes[c] = kc := Option.some.inj ((Array.getElem?_eq_getElem hlt).symm.trans hget)
  rw [hkc] at hc
  cases hk : kc.kind with
  | array comp ty =>
    rw [hk] at hc h
    have hcc : comp = cy 13 := by simpa using hc
    have h := Bool.and_eq_true_iff.mp h
    have h2 : s.vm.findClass "[[I" = some c := of_decide_eq_true h.2
    have h1 : ty = FieldType.array FieldType.int := of_decide_eq_true h.1
    have : c = cy 18 := Option.some.inj (h2.symm.trans e2)
    subst this
    exact ⟨_, hget, by rw [hk, hcc, h1], kE, hkE⟩
  | _ => rw [hk] at hc; simp at hc

