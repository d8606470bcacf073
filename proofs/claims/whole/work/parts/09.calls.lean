/-! ROWS, fourth: calls, answers, a contract out of a walk -/
def x_q (L : List Nat) (P : Option (Nat × Int) → (Nat → Nat → Int) → Prop) : x_Q := fun v L' G' => L' = L ∧ P v G'
abbrev CM (y : MethodName) (μ : x_M) (d mc ms : Nat) (av : List (Nat × Int)) (L : List Nat) (G : Nat → Nat → Int) (Q : x_Q) : Prop := Ct y (x_cc μ) (x_nL μ) (x_ret μ) d mc ms av L G Q
theorem x_goodIn {w : Cond} (h : w ∈ x_tb) : GoodIn x_tb (w :: x_tb) := fun u hu => by
  have hm : u ∈ x_tb := (List.mem_cons.mp hu).elim (fun e => e ▸ h) id
  exact ⟨hm, good_of_word (List.mem_filter.mp hm).2⟩
def x_lkB (y : MethodName) (cc : ByteArray) (nL : Nat) (ret : Option FieldType) (n : Nat) : Prop := Cond.code y cc nL ret ∈ x_tb ∧ Cond.initialized y.cls ∈ x_tb ∧ y.cls ≠ "java/lang/invoke/MethodHandle" ∧ y.cls ≠ "java/lang/invoke/VarHandle" ∧ (parseMethodDescriptor y.desc).map (fun d => d.parameters.length) = some n
def x_lkV (own : String) (idx : Nat) (y : MethodName) (cc : ByteArray) (nL : Nat) (ret : Option FieldType) (n : Nat) : Prop := x_lkB y cc nL ret n ∧ Cond.methodLink own idx y ∈ x_tb ∧ Cond.instanceMethod y ∈ x_tb ∧ Cond.selects y.cls y y ∈ x_tb
def x_lkS (own : String) (idx : Nat) (y : MethodName) (cc : ByteArray) (nL : Nat) (ret : Option FieldType) (n : Nat) : Prop := x_lkB y cc nL ret n ∧ Cond.methodLink own idx y ∈ x_tb ∧ Cond.static y ∈ x_tb
def x_lkSN (own host : String) (idx : Nat) (y : MethodName) (cc : ByteArray) (nL : Nat) (ret : Option FieldType) (n : Nat) : Prop := x_lkB y cc nL ret n ∧ Cond.methodLinkNest own idx y host ∈ lw_tbl ∧ Cond.static y ∈ x_tb
def x_lkI (own : String) (idx : Nat) (y : MethodName) (cc : ByteArray) (nL : Nat) (n : Nat) : Prop := x_lkB y cc nL none n ∧ Cond.methodLink own idx y ∈ x_tb ∧ y.name = "<init>" ∧ Cond.instanceMethod y ∈ x_tb
def x_lkIN (own host : String) (idx : Nat) (y : MethodName) (cc : ByteArray) (nL : Nat) (n : Nat) : Prop := x_lkB y cc nL none n ∧ Cond.methodLinkNest own idx y host ∈ lw_tbl ∧ y.name = "<init>" ∧ Cond.instanceMethod y ∈ x_tb
def x_cats (st : List (Nat × Int)) : Nat := (st.map fun v => if v.1 = 1 then 2 else 1).sum
theorem x_cats_eq (ρ : Nat → Nat) (st : List (Nat × Int)) : ((st.map (x_rv ρ)).map fun v => v.category).sum = x_cats st := by
  unfold x_cats
  rw [List.map_map]
  refine congrArg List.sum (List.map_congr_left fun v _ => ?_)
  exact x_cat ρ v.1 v.2
theorem x_run {p : Program} {l : Launch} {e : Env} {R : Room} {s : State} {m : MethodId} {args : Array Value} {below : List Frame} {meth : Method} {c : Code} {H : Heap} {locs : List Loc} {k n mc' ms' : Nat} {Z : State → Prop} {pc : Nat} {lsA : Array Slot} {st0 rest : List Value} {D : va_G} {cy : Nat → ClassId} {B : Nat} {ρ : Nat → Nat} {L : List Nat} {Q' : x_Q}
    (hr : va_Run p l e R s m args below meth c H locs k n mc' ms' (F0 m pc lsA st0) rest (x_Qc D cy B ρ L Q') (x_A B)) (hS : va_S (x_A B) s.heap H locs)
    (kk : ∀ (v : Option (Nat × Int)) (L' : List Nat) (G' : Nat → Nat → Int) (ρ' : Nat → Nat) (H' : Heap) (locs' : List Loc), Q' v L' G' → x_Rep D cy B ρ' L' G' H' → x_ext L ρ L' ρ' → (∀ w, v = some w → x_ok L' w) → va_S (x_A B) s.heap H' locs' → W p l e R s m args below meth c H' locs' (k + mc') (n + ms') Z (F0 m (pc + 3) lsA ((v.map (x_rv ρ')).toList ++ rest))) : W p l e R s m args below meth c H locs k n Z (F0 m pc lsA st0) := by
  intro T hT X
  obtain ⟨v0, st₀, t, T', L1, h0, X', hL, e1, e2, ⟨⟨v, L', G', ρ', hv, hq, hR, hE, hok⟩, hF⟩, st⟩ := hr T hT X
  cases hv
  obtain ⟨hz, hk⟩ := hF
  rw [h0] at hz hk
  obtain ⟨t2, a1, b1⟩ := kk v L' G' ρ' T'.heap (locs ++ L1) hq (by rw [e1]; exact hR) hE hok
    ⟨Nat.le_trans hS.1 (by rw [e1]; exact hz), fun q h1 h2 => by rw [e1, hk q (Nat.lt_of_lt_of_le h1 hS.1) h2]; exact hS.2.1 q h1 h2, fun q hq => by
      rcases List.mem_append.mp hq with h | h
      · exact hS.2.2 q h
      · exact hL q h⟩ T' rfl X'
  exact ⟨t2, st t2 a1, b1⟩
section XR4
variable {μ : x_M} {d mc ms : Nat} {Q : x_Q} {pc : Nat} {ls : List (Option (Nat × Int))} {st : List (Nat × Int)} {L : List Nat} {G : Nat → Nat → Int} {k n : Nat}
variable {d' mc' ms' : Nat} {y : MethodName} {cc' : ByteArray} {nL' : Nat} {ret' : Option FieldType} {Q' : x_Q} {idx : Nat} {st0 : List (Nat × Int)}
/-- behind a call -/
theorem x_behind {p : Program} {l : Launch} {e : Env} {s : State} {m : MethodId} {args : Array Value} {below : List Frame} {meth : Method} {c : Code} {D : va_G} {cy : Nat → ClassId} {B : Nat} {L0 : List Nat} {ρ0 : Nat → Nat} {Z : State → Prop} {H : Heap} {locs : List Loc} {lsA : Array Slot} {ρ : Nat → Nat} {stA : List Value}
    (C : x_C μ d mc ms Q p l e s m args below meth c D cy B L0 ρ0 Z) (hE : x_ext L0 ρ0 L ρ) (hS : va_S (x_A B) s.heap H locs) (hl : lv_has lsA (x_nL μ) (x_lv ρ 0 ls)) (ho : x_okS L st) (hv : x_okl L ls) (hcap : k + mc' ≤ mc ∧ n + ms' ≤ ms)
    (hr : va_Run p l e (x_rm d mc ms) s m args below meth c H locs k n mc' ms' (F0 m pc lsA stA) (st.map (x_rv ρ)) (x_Qc D cy B ρ L Q') (x_A B))
    (kk : ∀ (v : Option (Nat × Int)) (L' : List Nat) (G' : Nat → Nat → Int), Q' v L' G' → (∀ i ∈ L, i ∈ L') → X μ d mc ms Q (pc + 3) ls (v.toList ++ st) L' G' (k + mc') (n + ms')) : W p l e (x_rm d mc ms) s m args below meth c H locs k n Z (F0 m pc lsA stA) := by
  refine x_run hr hS (fun v L' G' ρ' H' locs' hq hR' hE' hok hS' => ?_)
  refine x_eqW (s2 := (v.toList ++ st).map (x_rv ρ')) ?_ (kk v L' G' hq (fun i hi => (hE'.1 i hi).1) p l e s m args below meth c D cy B L0 ρ0 Z H' locs' lsA ρ' C hR' (hE.tr hE') hS' ?_ ?_ ?_ hcap.1 hcap.2)
  · rw [List.map_append, x_map_ext hE' ho]
    cases v <;> rfl
  · rw [x_lv_ext hE' ls 0 hv]; exact hl
  · intro w hw
    rcases List.mem_append.mp hw with h | h
    · cases v with
      | none => cases h
      | some u => rw [List.mem_singleton.mp h]; exact hok u rfl
    · exact fun q => (ho w h q).ext hE'
  · exact fun w hw q => (hv w hw q).ext hE'
theorem x_room (h : d' + 1 ≤ d ∧ nL' ≤ 18) : (x_rm d' mc' ms').frames + 1 ≤ (x_rm d mc ms).frames ∧ 8 + (nL' + 11) + (x_rm d' mc' ms').locals ≤ (x_rm d mc ms).locals := by
  refine ⟨h.1, ?_⟩
  show 8 + (nL' + 11) + (37 * d' + 8) ≤ 37 * d + 8
  omega
theorem x_ctPc {D : va_G} {cy : Nat → ClassId} {B : Nat} {ρ : Nat → Nat} {s : State} {H : Heap} {av : List (Nat × Int)} {Vs : Array Value} (hR : x_Rep D cy B ρ L G H) (hK : va_K D vwCl (x_tys cy) s ∧ x_env s) (hVs : Vs = (av.map (x_rv ρ)).toArray) : ∀ U : State, U.heap = H → s.WarmedH U.vm → va_Pc (av.map (x_rv ρ)) (fun U => x_Rep D cy B ρ L G U.heap ∧ va_K D vwCl (x_tys cy) U ∧ x_env U) Vs U :=
  fun U hU hW => ⟨hVs, by rw [hU]; exact hR, va_K.moved hW.alike hK.1, hK.2.warm hW⟩
theorem x_revmap {ρ : Nat → Nat} {as : List (Nat × Int)} : (as.reverse).map (x_rv ρ) = (as.map (x_rv ρ)).reverse := List.map_reverse
theorem x_mapR {ρ : Nat → Nat} {r : Nat} {as : List (Nat × Int)} : (vR r :: as).map (x_rv ρ) = Value.ref (ρ r) :: as.map (x_rv ρ) := by rw [List.map_cons, x_rvR]
theorem x_callV {r ci n0 : Nat} {as : List (Nat × Int)} (hd : decode (x_cc μ) pc = .ok (.invokevirtual idx, 3)) (hlk : x_lkV (x_own μ) idx y cc' nL' ret' as.length) (hct : Ct y cc' nL' ret' d' mc' ms' (vR r :: as) L G Q') (hk : xK r = (ci, n0)) (hci : ci ≤ 12 ∧ (vwCl[ci]?).map (fun q => q.1) = some y.cls) (hr : r ∈ L) (hdd : d' + 1 ≤ d ∧ nL' ≤ 18) (hcap : k + mc' ≤ mc ∧ n + ms' ≤ ms) (hw : x_cats st ≤ 8) (hst : st0 = as.reverse ++ vR r :: st) (kk : ∀ (v : Option (Nat × Int)) (L' : List Nat) (G' : Nat → Nat → Int), Q' v L' G' → (∀ i ∈ L, i ∈ L') → X μ d mc ms Q (pc + 3) ls (v.toList ++ st) L' G' (k + mc') (n + ms')) : X μ d mc ms Q pc ls st0 L G k n := by
  subst hst
  intro p l e s m args below meth c D cy B L0 ρ0 Z H locs lsA ρ C hR hE hS hl ho hv h1 h2
  obtain ⟨⟨w1, w2, w3, w4, w5⟩, w6, w7, w8⟩ := hlk
  have hts := C.2.2.2.2.1
  have hav : x_okS L (vR r :: as) := fun w hw => by
    rcases List.mem_cons.mp hw with rfl | hw
    · exact x_okR hr
    · exact ho w (List.mem_append_left _ (List.mem_reverse.mpr hw))
  have hst : x_okS L st := fun w hw => ho w (List.mem_append_right _ (List.mem_cons_of_mem _ hw))
  have hM := hct l D cy B ρ hav
  obtain ⟨z, hz⟩ := x_mem hr
  have hcell : ∃ cellB : Cell, H[ρ r]? = some cellB ∧ cellB.vm.isStatics = false ∧ s.vm.findClass y.cls = some cellB.cls := by
    have hwl := x_wl_at (cy := cy) (ρ := ρ) (G := G) hz
    rw [x_ceO hk hci.1] at hwl
    obtain ⟨q, hq⟩ : ∃ q, vwCl[ci]? = some q := by
      cases hq : vwCl[ci]? with
      | none => rw [hq] at hci; cases hci.2
      | some q => exact ⟨q, rfl⟩
    have := va_recv C.2.2.2.2.2.1.1 hR.1 (ci := ci) (q0 := z) hq hwl
    rw [hq] at hci
    have e1 : q.1 = y.cls := Option.some.inj hci.2
    rw [← e1]; exact this
  have cw : CallW (x_rm d mc ms) s args (x_own μ) y.cls idx y cc' nL' ret' (.code y cc' nL' ret' :: x_tb) (x_rm d' mc' ms') mc' ms' as.length :=
    ⟨callB_of as.length hts (x_goodIn w1) rfl rfl rfl (hts _ w2) (hts _ w6) ⟨w3, w4, w5⟩ (x_room hdd), hts _ w7, hts _ w8⟩
  have hrun := va_runV (locs := locs) (cells := k) (slots := n) (e := e) (below := below) (meth := meth) (g := F0 m pc lsA (((as.reverse ++ vR r :: st)).map (x_rv ρ))) (As := as.map (x_rv ρ)) (rest := st.map (x_rv ρ)) (b := ρ r) (Ts := x_tb) (nL := x_nL μ) (H := H) ⟨C.1, C.2.1, C.2.2.1, C.2.2.2.1, hts⟩ hM cw
    ⟨x_blind, hcell, x_ctPc hR C.2.2.2.2.2.1 (by rw [x_mapR])⟩ rfl (by rw [List.length_map]) hl.1 (by rw [List.map_append, x_revmap, x_mapR]) (by show 2 * 0 + _ ≤ 8; rw [x_cats_eq]; omega) hd hcap
  exact x_behind C hE hS hl hst hv hcap hrun kk
theorem x_callS {as : List (Nat × Int)} (hd : decode (x_cc μ) pc = .ok (.invokestatic idx, 3)) (hlk : x_lkS (x_own μ) idx y cc' nL' ret' as.length) (hct : Ct y cc' nL' ret' d' mc' ms' as L G Q') (hdd : d' + 1 ≤ d ∧ nL' ≤ 18) (hcap : k + mc' ≤ mc ∧ n + ms' ≤ ms) (hw : x_cats st ≤ 8) (hst : st0 = as.reverse ++ st) (kk : ∀ (v : Option (Nat × Int)) (L' : List Nat) (G' : Nat → Nat → Int), Q' v L' G' → (∀ i ∈ L, i ∈ L') → X μ d mc ms Q (pc + 3) ls (v.toList ++ st) L' G' (k + mc') (n + ms')) : X μ d mc ms Q pc ls st0 L G k n := by
  subst hst
  intro p l e s m args below meth c D cy B L0 ρ0 Z H locs lsA ρ C hR hE hS hl ho hv h1 h2
  obtain ⟨⟨w1, w2, w3, w4, w5⟩, w6, w7⟩ := hlk
  have hts := C.2.2.2.2.1
  have hav : x_okS L as := fun w hw => ho w (List.mem_append_left _ (List.mem_reverse.mpr hw))
  have hst : x_okS L st := fun w hw => ho w (List.mem_append_right _ hw)
  have hM := hct l D cy B ρ hav
  have cw : CallB (x_rm d mc ms) s args (x_own μ) idx y cc' nL' ret' (.code y cc' nL' ret' :: x_tb) (x_rm d' mc' ms') mc' ms' as.length :=
    callB_of as.length hts (x_goodIn w1) rfl rfl rfl (hts _ w2) (hts _ w6) ⟨w3, w4, w5⟩ (x_room hdd)
  have hrun := va_runS (locs := locs) (cells := k) (slots := n) (e := e) (below := below) (meth := meth) (g := F0 m pc lsA ((as.reverse ++ st).map (x_rv ρ))) (As := as.map (x_rv ρ)) (rest := st.map (x_rv ρ)) (Ts := x_tb) (nL := x_nL μ) (H := H) ⟨C.1, C.2.1, C.2.2.1, C.2.2.2.1, hts⟩ hM ⟨cw, hts _ w7⟩
    ⟨x_blind, x_ctPc hR C.2.2.2.2.2.1 rfl⟩ rfl (by rw [List.length_map]) hl.1 (by rw [List.map_append, x_revmap]) (by show 2 * 0 + _ ≤ 8; rw [x_cats_eq]; omega) hd hcap
  exact x_behind C hE hS hl hst hv hcap hrun kk
theorem x_callSN {host : String} {as : List (Nat × Int)} (hd : decode (x_cc μ) pc = .ok (.invokestatic idx, 3)) (hlk : x_lkSN (x_own μ) host idx y cc' nL' ret' as.length) (hct : Ct y cc' nL' ret' d' mc' ms' as L G Q') (hdd : d' + 1 ≤ d ∧ nL' ≤ 18) (hcap : k + mc' ≤ mc ∧ n + ms' ≤ ms) (hw : x_cats st ≤ 8) (hst : st0 = as.reverse ++ st) (kk : ∀ (v : Option (Nat × Int)) (L' : List Nat) (G' : Nat → Nat → Int), Q' v L' G' → (∀ i ∈ L, i ∈ L') → X μ d mc ms Q (pc + 3) ls (v.toList ++ st) L' G' (k + mc') (n + ms')) : X μ d mc ms Q pc ls st0 L G k n := by
  subst hst
  intro p l e s m args below meth c D cy B L0 ρ0 Z H locs lsA ρ C hR hE hS hl ho hv h1 h2
  obtain ⟨⟨w1, w2, w3, w4, w5⟩, w6, w7⟩ := hlk
  have hts := C.2.2.2.2.1
  have hav : x_okS L as := fun w hw => ho w (List.mem_append_left _ (List.mem_reverse.mpr hw))
  have hst : x_okS L st := fun w hw => ho w (List.mem_append_right _ hw)
  have hM := hct l D cy B ρ hav
  have cw : va_CN (x_rm d mc ms) s args (x_own μ) idx y host cc' nL' ret' (.code y cc' nL' ret' :: x_tb) (x_rm d' mc' ms') mc' ms' as.length :=
    va_cnB as.length hts (x_goodIn w1) rfl rfl rfl (C.2.2.2.2.2.1.2 _ w6 rfl) (hts _ w2) ⟨w3, w4, w5⟩ (x_room hdd)
  have hrun := va_runSN (locs := locs) (cells := k) (slots := n) (e := e) (below := below) (meth := meth) (g := F0 m pc lsA ((as.reverse ++ st).map (x_rv ρ))) (As := as.map (x_rv ρ)) (rest := st.map (x_rv ρ)) (Ts := x_tb) (nL := x_nL μ) (H := H) ⟨C.1, C.2.1, C.2.2.1, C.2.2.2.1, hts⟩ hM ⟨cw, hts _ w7, trivial⟩
    ⟨x_blind, x_ctPc hR C.2.2.2.2.2.1 rfl⟩ rfl (by rw [List.length_map]) hl.1 (by rw [List.map_append, x_revmap]) (by show 2 * 0 + _ ≤ 8; rw [x_cats_eq]; omega) hd hcap
  exact x_behind C hE hS hl hst hv hcap hrun kk
theorem x_callI {r : Nat} {as : List (Nat × Int)} (hd : decode (x_cc μ) pc = .ok (.invokespecial idx, 3)) (hlk : x_lkI (x_own μ) idx y cc' nL' as.length) (hct : Ct y cc' nL' none d' mc' ms' (vR r :: as) L G Q') (hr : r ∈ L) (hdd : d' + 1 ≤ d ∧ nL' ≤ 18) (hcap : k + mc' ≤ mc ∧ n + ms' ≤ ms) (hw : x_cats st ≤ 8) (hst : st0 = as.reverse ++ vR r :: st) (kk : ∀ (v : Option (Nat × Int)) (L' : List Nat) (G' : Nat → Nat → Int), Q' v L' G' → (∀ i ∈ L, i ∈ L') → X μ d mc ms Q (pc + 3) ls (v.toList ++ st) L' G' (k + mc') (n + ms')) : X μ d mc ms Q pc ls st0 L G k n := by
  subst hst
  intro p l e s m args below meth c D cy B L0 ρ0 Z H locs lsA ρ C hR hE hS hl ho hv h1 h2
  obtain ⟨⟨w1, w2, w3, w4, w5⟩, w6, w7, w8⟩ := hlk
  have hts := C.2.2.2.2.1
  have hav : x_okS L (vR r :: as) := fun w hw => by
    rcases List.mem_cons.mp hw with rfl | hw
    · exact x_okR hr
    · exact ho w (List.mem_append_left _ (List.mem_reverse.mpr hw))
  have hst : x_okS L st := fun w hw => ho w (List.mem_append_right _ (List.mem_cons_of_mem _ hw))
  have hM := hct l D cy B ρ hav
  have cw : CallB (x_rm d mc ms) s args (x_own μ) idx y cc' nL' none (.code y cc' nL' none :: x_tb) (x_rm d' mc' ms') mc' ms' as.length :=
    callB_of as.length hts (x_goodIn w1) rfl rfl rfl (hts _ w2) (hts _ w6) ⟨w3, w4, w5⟩ (x_room hdd)
  have hrun := va_runI (locs := locs) (cells := k) (slots := n) (e := e) (below := below) (meth := meth) (g := F0 m pc lsA (((as.reverse ++ vR r :: st)).map (x_rv ρ))) (As := as.map (x_rv ρ)) (rest := st.map (x_rv ρ)) (b := ρ r) (Ts := x_tb) (nL := x_nL μ) (H := H) ⟨C.1, C.2.1, C.2.2.1, C.2.2.2.1, hts⟩ hM ⟨cw, w7, hts _ w8⟩
    ⟨x_blind, x_ctPc hR C.2.2.2.2.2.1 (by rw [x_mapR])⟩ rfl (by rw [List.length_map]) hl.1 (by rw [List.map_append, x_revmap, x_mapR]) (by show 2 * 0 + _ ≤ 8; rw [x_cats_eq]; omega) hd hcap
  exact x_behind C hE hS hl hst hv hcap hrun kk
theorem x_callIN {host : String} {r : Nat} {as : List (Nat × Int)} (hd : decode (x_cc μ) pc = .ok (.invokespecial idx, 3)) (hlk : x_lkIN (x_own μ) host idx y cc' nL' as.length) (hct : Ct y cc' nL' none d' mc' ms' (vR r :: as) L G Q') (hr : r ∈ L) (hdd : d' + 1 ≤ d ∧ nL' ≤ 18) (hcap : k + mc' ≤ mc ∧ n + ms' ≤ ms) (hw : x_cats st ≤ 8) (hst : st0 = as.reverse ++ vR r :: st) (kk : ∀ (v : Option (Nat × Int)) (L' : List Nat) (G' : Nat → Nat → Int), Q' v L' G' → (∀ i ∈ L, i ∈ L') → X μ d mc ms Q (pc + 3) ls (v.toList ++ st) L' G' (k + mc') (n + ms')) : X μ d mc ms Q pc ls st0 L G k n := by
  subst hst
  intro p l e s m args below meth c D cy B L0 ρ0 Z H locs lsA ρ C hR hE hS hl ho hv h1 h2
  obtain ⟨⟨w1, w2, w3, w4, w5⟩, w6, w7, w8⟩ := hlk
  have hts := C.2.2.2.2.1
  have hav : x_okS L (vR r :: as) := fun w hw => by
    rcases List.mem_cons.mp hw with rfl | hw
    · exact x_okR hr
    · exact ho w (List.mem_append_left _ (List.mem_reverse.mpr hw))
  have hst : x_okS L st := fun w hw => ho w (List.mem_append_right _ (List.mem_cons_of_mem _ hw))
  have hM := hct l D cy B ρ hav
  have cw : va_CN (x_rm d mc ms) s args (x_own μ) idx y host cc' nL' none (.code y cc' nL' none :: x_tb) (x_rm d' mc' ms') mc' ms' as.length :=
    va_cnB as.length hts (x_goodIn w1) rfl rfl rfl (C.2.2.2.2.2.1.2 _ w6 rfl) (hts _ w2) ⟨w3, w4, w5⟩ (x_room hdd)
  have hrun := va_runIN (locs := locs) (cells := k) (slots := n) (e := e) (below := below) (meth := meth) (g := F0 m pc lsA (((as.reverse ++ vR r :: st)).map (x_rv ρ))) (As := as.map (x_rv ρ)) (rest := st.map (x_rv ρ)) (b := ρ r) (Ts := x_tb) (nL := x_nL μ) (H := H) ⟨C.1, C.2.1, C.2.2.1, C.2.2.2.1, hts⟩ hM ⟨cw, w7, hts _ w8⟩
    ⟨x_blind, x_ctPc hR C.2.2.2.2.2.1 (by rw [x_mapR])⟩ rfl (by rw [List.length_map]) hl.1 (by rw [List.map_append, x_revmap, x_mapR]) (by show 2 * 0 + _ ≤ 8; rw [x_cats_eq]; omega) hd hcap
  exact x_behind C hE hS hl hst hv hcap hrun kk
/-! ends -/
theorem x_ret1 {v : Option (Nat × Int)} {st1 : List (Nat × Int)} (hst : st1 = v.toList) (hop : x_rop μ pc v) (hq : Q v L G) : X μ d mc ms Q pc ls st1 L G k n := by
  subst hst
  intro p l e s m args below meth c D cy B L0 ρ0 Z H locs lsA ρ C hR hE hS hl ho hv h1 h2
  exact C.2.2.2.2.2.2.2.2.2 v L G ρ H locs k n pc lsA hq hop hR hE (fun w hw => ho w (by rw [hw]; exact List.mem_singleton.mpr rfl)) hS h1 h2
theorem x_iret {x : Int} (hd : decode (x_cc μ) pc = .ok (.ireturn, 1)) (hr : x_ret μ = some .int) (hq : Q (some (vI x)) L G) : X μ d mc ms Q pc ls [vI x] L G k n := x_ret1 (v := some (vI x)) rfl (Or.inl ⟨rfl, hd, Or.inl hr⟩) hq
theorem x_zret {x : Int} (hd : decode (x_cc μ) pc = .ok (.ireturn, 1)) (hr : x_ret μ = some .boolean) (hx : x = 0 ∨ x = 1) (hq : Q (some (vI x)) L G) : X μ d mc ms Q pc ls [vI x] L G k n := x_ret1 (v := some (vI x)) rfl (Or.inl ⟨rfl, hd, Or.inr ⟨hr, hx⟩⟩) hq
theorem x_lret {x : Int} (hd : decode (x_cc μ) pc = .ok (.lreturn, 1)) (hr : x_ret μ = some .long) (hq : Q (some (vL x)) L G) : X μ d mc ms Q pc ls [vL x] L G k n := x_ret1 (v := some (vL x)) rfl (Or.inr (Or.inl ⟨rfl, hd, hr⟩)) hq
theorem x_aret {x : Nat} {nm : String} (hd : decode (x_cc μ) pc = .ok (.areturn, 1)) (hr : x_ret μ = some (.object nm)) (hq : Q (some (vR x)) L G) : X μ d mc ms Q pc ls [vR x] L G k n := x_ret1 (v := some (vR x)) rfl (Or.inr (Or.inr ⟨rfl, hd, nm, hr⟩)) hq
theorem x_vret (hd : decode (x_cc μ) pc = .ok (.return_, 1)) (hr : x_ret μ = none) (hq : Q none L G) : X μ d mc ms Q pc ls [] L G k n := x_ret1 (v := none) rfl ⟨hr, hd⟩ hq
end XR4
/-! a contract out of a walk -/
def x_en : List (Nat × Int) → List (Option (Nat × Int))
  | [] => []
  | v :: vs => if v.1 = 1 then some v :: none :: x_en vs else some v :: x_en vs
theorem x_lv_none (ρ : Nat → Nat) : ∀ (i j : Nat), x_lv ρ i (List.replicate j none) = []
  | i, 0 => rfl
  | i, j + 1 => by rw [List.replicate_succ, x_lv]; exact x_lv_none ρ (i + 1) j
theorem x_en_lv (ρ : Nat → Nat) (j : Nat) : ∀ (av : List (Nat × Int)) (i : Nat), x_lv ρ i (x_en av ++ List.replicate j none) = lv_args i (av.map (x_rv ρ))
  | [], i => by rw [x_en, List.nil_append]; exact x_lv_none ρ i j
  | v :: vs, i => by
    rw [x_en, List.map_cons, lv_args, x_cat]
    by_cases h : v.1 = 1
    · rw [if_pos h, if_pos (by rw [if_pos h]), List.cons_append, List.cons_append, x_lv, x_lv, x_en_lv ρ j vs (i + 2)]
    · rw [if_neg h, if_neg (by rw [if_neg h]; decide), List.cons_append, x_lv, x_en_lv ρ j vs (i + 1)]
theorem x_en_len (ρ : Nat → Nat) : ∀ (av : List (Nat × Int)), (lg_sl (av.map (x_rv ρ))).length = (x_en av).length
  | [] => rfl
  | v :: vs => by
    have ih := x_en_len ρ vs
    have e : lg_sl ((v :: vs).map (x_rv ρ)) = (if (x_rv ρ v).category = 2 then [Slot.val (x_rv ρ v), .second] else [.val (x_rv ρ v)]) ++ lg_sl (vs.map (x_rv ρ)) := rfl
    rw [e, List.length_append, ih, x_en, x_cat]
    by_cases h : v.1 = 1
    · rw [if_pos h, if_pos h, if_pos rfl]; simp; omega
    · rw [if_neg h, if_neg h, if_neg (by decide)]; simp; omega
theorem x_en_ok0 {L : List Nat} : ∀ (av : List (Nat × Int)), x_okS L av → ∀ w, some w ∈ x_en av → x_ok L w
  | [], _, w, hw => by cases hw
  | v :: vs, h, w, hw => by
    have ih := x_en_ok0 vs (fun u hu => h u (List.mem_cons_of_mem _ hu)) w
    rw [x_en] at hw
    split at hw
    · rcases List.mem_cons.mp hw with e | hw
      · cases e; exact h _ List.mem_cons_self
      · rcases List.mem_cons.mp hw with e | hw
        · cases e
        · exact ih hw
    · rcases List.mem_cons.mp hw with e | hw
      · cases e; exact h _ List.mem_cons_self
      · exact ih hw
theorem x_en_ok {L : List Nat} {j : Nat} {av : List (Nat × Int)} (h : x_okS L av) : x_okl L (x_en av ++ List.replicate j none) := by
  intro w hw
  rcases List.mem_append.mp hw with hw | hw
  · exact x_en_ok0 av h w hw
  · have := List.eq_of_mem_replicate hw
    cases this
theorem Ct.of_X {y : MethodName} {μ : x_M} {d mc ms : Nat} {av : List (Nat × Int)} {L : List Nat} {G : Nat → Nat → Int} {Q : x_Q} {ls : List (Option (Nat × Int))} (hcls : x_own μ = y.cls) (hsn : x_sn μ = 0) (hpl : plainName y.cls = true) (hini : x_ini μ = true → y.name = "<init>") (hlen : (x_en av).length ≤ x_nL μ) (hent : x_en av ++ List.replicate (x_nL μ - (x_en av).length) none = ls) (kk : X μ d mc ms Q 0 ls [] L G 0 0) : CM y μ d mc ms av L G Q := by
  intro l D cy B ρ hav
  refine Met.ofW (cc := x_cc μ) (maxL := x_nL μ) (ret := x_ret μ) hpl rfl ?_
  intro p e s m args below meth c s₁ Bd hml hv
  obtain ⟨rfl, hR, hK⟩ := hv
  have hts0 := atoms_spec (ws := Cond.code y (x_cc μ) (x_nL μ) (x_ret μ) :: x_tb) Bd.pre
  have hown : s.vm.findClass y.cls = some m.cls := findClass_of_methodNamed Bd.named
  have hlocks := Bd.notSynchronized
  have hret := Bd.returns
  have hl := lv_entry (av.map (x_rv ρ)) (n := x_nL μ) (by rw [x_en_len]; exact hlen)
  rw [lg_entry_eq]
  generalize (lg_sl (av.map (x_rv ρ)) ++ List.replicate (x_nL μ - (lg_sl (av.map (x_rv ρ))).length) Slot.unset).toArray = lsA at hl ⊢
  subst hent
  have hS : va_S (x_A B) s.heap s.heap [] := va_S.rf
  refine kk p l e s m _ below meth c D cy B L ρ _ s.heap [] lsA ρ ⟨Bd.exec, Bd.bytes, hml, by rw [hcls]; exact hown, fun w hw => hts0 w (List.mem_cons_of_mem _ hw), hK, hR.2.2.2.2.2, fun h => by rw [(name_of_methodNamed Bd.named Bd.method).1]; exact hini h, Or.inl hsn, ?_⟩ hR x_ext.rf hS (by rw [x_en_lv]; exact hl) (fun w hw => by cases hw) (x_en_ok hav) (Nat.zero_le _) (Nat.zero_le _)
  intro v L' G' ρ' H' locs' k n pc' ls' hq hop hR' hE' hok hS' h1 h2
  refine W.widen h1 h2 ?_
  have hpost : ∀ t : State, t.heap = H' → s.WarmedH t.vm → x_Qc D cy B ρ L Q s (.returned (v.map (x_rv ρ'))) t := fun t ht hW =>
    ⟨⟨v, L', G', ρ', rfl, hq, by rw [ht]; exact hR', hE', hok⟩, hS'.F ht⟩
  cases v with
  | none => exact W.vret Bd.exec Bd.bytes (hret.trans hop.1) hpost hS'.2.2 hop.2 hlocks
  | some w =>
    obtain ⟨t, x⟩ := w
    rcases hop with ⟨ht, hdg, ho⟩ | ⟨ht, hdg, ho⟩ | ⟨ht, hdg, nm, ho⟩
    · have ht : t = 0 := ht
      subst ht
      rcases ho with ho | ⟨ho, hx⟩
      · exact W.iret Bd.exec Bd.bytes (hret.trans ho) hpost hS'.2.2 hdg hlocks
      · have hx : x = 0 ∨ x = 1 := hx
        exact W.zret Bd.exec Bd.bytes (hret.trans ho) (by rcases hx with rfl | rfl <;> rfl) hpost hS'.2.2 hdg hlocks
    · have ht : t = 1 := ht
      subst ht
      exact W.lret Bd.exec Bd.bytes (hret.trans ho) hpost hS'.2.2 hdg hlocks
    · have ht : t = 2 := ht
      subst ht
      refine W.aret (v := x_rv ρ' (2, x)) Bd.exec Bd.bytes (hret.trans ho) (Or.inl ⟨nm, rfl⟩) ?_ hpost hS'.2.2 hdg hlocks
      have e : x_rv ρ' (2, x) = x_ref ρ' x := rfl
      rw [e]
      unfold x_ref
      split
      · exact Or.inl rfl
      · exact Or.inr ⟨_, rfl⟩
