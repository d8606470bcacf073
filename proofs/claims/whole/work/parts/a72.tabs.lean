/-! the law: the classes that the tables know -/
theorem w_ovI {s : State} {cI : ClassId} (e1 : s.vm.findClass "[I" = some cI) (h : va_Nw (.arrayOver (.array .int)) s) : ∃ (c : ClassId) (kA : Class), s.vm.classes[c]? = some kA ∧ kA.kind = .array cI (.array .int) ∧ s.vm.findClass "[[I" = some c := by
  unfold va_Nw Cond.before Cond.holds at h
  simp only [Cond.value] at h
  have e3 : s.vm.findClass (FieldType.array FieldType.int).toString = some cI := e1
  rw [e3] at h
  simp only [Option.bind_some] at h
  have h := eq_of_beq h
  obtain ⟨c, hf, h⟩ := Option.bind_eq_some_iff.mp h
  obtain ⟨kc, hget, h⟩ := Option.map_eq_some_iff.mp h
  obtain ⟨hlt, hc, -⟩ := Array.findIdx?_eq_some_iff_getElem.mp hf
  have hkc : s.vm.classes[c] = kc := Option.some.inj ((Array.getElem?_eq_getElem hlt).symm.trans hget)
  rw [hkc] at hc
  cases hk : kc.kind with
  | array comp ty =>
    rw [hk] at hc h
    have hcc : comp = cI := by simpa using hc
    have h := Bool.and_eq_true_iff.mp h
    have h2 : s.vm.findClass "[[I" = some c := of_decide_eq_true h.2
    have h1 : ty = FieldType.array FieldType.int := of_decide_eq_true h.1
    exact ⟨c, kc, hget, by rw [hk, hcc, h1], h2⟩
  | _ => rw [hk] at hc; simp at hc
theorem w_env {s : State} {a : Array Value} (hts : ∀ w ∈ lw_tbl, w.before a s = true) : x_env s := by
  intro w hw hn
  have h := hts w hw
  cases w <;> first | (cases hn; done) | exact va_tabs (U := s) rfl rfl h | exact h
theorem w_cls {s : State} {a : Array Value} (hts : ∀ w ∈ x_tb, w.before a s = true) : ∃ D : va_G, ∀ (c : Nat) (q : vw_C), vwCl[c]? = some q → u_Kn s q.1 q.2.1 q.2.2 (D.1 c) (D.2 c) := by
  obtain ⟨c0, i0, h0⟩ := u_known (C := RX0) (T := TX0) (N := 3) (n := 3) hts inX0 (hts _ ln_X0)
  obtain ⟨c1, i1, h1⟩ := u_known (C := RX1) (T := TX1) (N := 14) (n := 14) hts inX1 (hts _ ln_X1)
  obtain ⟨c2, i2, h2⟩ := u_known (C := RX2) (T := TX2) (N := 9) (n := 9) hts inX2 (hts _ ln_X2)
  obtain ⟨c3, i3, h3⟩ := u_known (C := RX3) (T := TX3) (N := 2) (n := 2) hts inX3 (hts _ ln_X3)
  obtain ⟨c4, i4, h4⟩ := u_known (C := RX4) (T := TX4) (N := 7) (n := 7) hts inX4 (hts _ ln_X4)
  obtain ⟨c5, i5, h5⟩ := u_known (C := RX5) (T := TX5) (N := 17) (n := 17) hts inX5 (hts _ ln_X5)
  obtain ⟨c6, i6, h6⟩ := u_known (C := RX6) (T := TX6) (N := 5) (n := 5) hts inX6 (hts _ ln_X6)
  obtain ⟨c7, i7, h7⟩ := u_known (C := RX7) (T := TX7) (N := 7) (n := 7) hts inX7 (hts _ ln_X7)
  obtain ⟨c8, i8, h8⟩ := u_known (C := RX8) (T := TX8) (N := 6) (n := 6) hts inX8 (hts _ ln_X8)
  obtain ⟨c9, i9, h9⟩ := u_known (C := RX9) (T := TX9) (N := 2) (n := 2) hts inX9 (hts _ ln_X9)
  obtain ⟨c10, i10, h10⟩ := u_known (C := RX10) (T := TX10) (N := 2) (n := 2) hts inX10 (hts _ ln_X10)
  obtain ⟨c11, i11, h11⟩ := u_known (C := RX11) (T := TX11) (N := 8) (n := 8) hts inX11 (hts _ ln_X11)
  obtain ⟨c12, i12, h12⟩ := u_known (C := RX12) (T := TX12) (N := 53) (n := 53) hts inX12 (hts _ ln_X12)
  refine ⟨(fun k => ([c0, c1, c2, c3, c4, c5, c6, c7, c8, c9, c10, c11, c12] : List ClassId).getD k c0, fun k => ([i0, i1, i2, i3, i4, i5, i6, i7, i8, i9, i10, i11, i12] : List (Nat → Nat)).getD k i0), fun k q hq => ?_⟩
  match k, hq with
  | 0, hq => cases hq; exact h0
  | 1, hq => cases hq; exact h1
  | 2, hq => cases hq; exact h2
  | 3, hq => cases hq; exact h3
  | 4, hq => cases hq; exact h4
  | 5, hq => cases hq; exact h5
  | 6, hq => cases hq; exact h6
  | 7, hq => cases hq; exact h7
  | 8, hq => cases hq; exact h8
  | 9, hq => cases hq; exact h9
  | 10, hq => cases hq; exact h10
  | 11, hq => cases hq; exact h11
  | 12, hq => cases hq; exact h12
  | k + 13, hq => simp [vwCl] at hq
theorem w_ar {s : State} {cA : ClassId} {k : Class} {comp : ClassId} {ty : FieldType} (h1 : s.vm.classes[cA]? = some k) (h2 : k.kind = .array comp ty) : ArrOfT s cA ty := fun _ _ => ⟨(fun _ h => by cases h), k, h1, comp, h2⟩
theorem w_K {s : State} {a : Array Value} (hts : ∀ w ∈ lw_tbl, w.before a s = true) : ∃ (D : va_G) (cy : Nat → ClassId), va_K D vwCl (x_tys cy) s ∧ x_env s := by
  have ht : ∀ w ∈ x_tb, w.before a s = true := fun w hw => hts w (List.mem_filter.mp hw).1
  have he := w_env hts
  obtain ⟨D, hD⟩ := w_cls ht
  obtain ⟨cI, kI, pI, a1, a2, a3⟩ := Cond.arrayClass_spec (ht _ la_I)
  obtain ⟨cJ, kJ, pJ, b1, b2, b3⟩ := Cond.arrayClass_spec (ht _ la_J)
  obtain ⟨cZ, kZ, pZ, d1, d2, d3⟩ := Cond.arrayClass_spec (ht _ la_Z)
  obtain ⟨pS, cS, kS, e1, e0, e2, e3, e4⟩ := Cond.arrayOver_spec (hts _ lo_S)
  obtain ⟨pW, cW, kW, f1, f0, f2, f3, f4⟩ := Cond.arrayOver_spec (hts _ lo_W)
  obtain ⟨cA, kA, g1, g2, g3⟩ := w_ovI a1 (he _ lo_I rfl)
  refine ⟨D, fun t => ([cI, cJ, cZ, cS, cW, cA] : List ClassId).getD (t - 13) cI, ⟨hD, fun k q hq => ?_⟩, he⟩
  match k, hq with
  | 0, hq => cases hq; exact ⟨w_ar a2 a3, a1⟩
  | 1, hq => cases hq; exact ⟨w_ar b2 b3, b1⟩
  | 2, hq => cases hq; exact ⟨w_ar d2 d3, d1⟩
  | 3, hq => cases hq; exact ⟨w_ar e2 e3, kS, pS, e2, e3, e1, e4⟩
  | 4, hq => cases hq; exact ⟨w_ar f2 f3, kW, pW, f2, f3, f1, f4⟩
  | 5, hq => cases hq; exact ⟨w_ar g1 g2, g3⟩
  | k + 6, hq => simp [x_tys] at hq

