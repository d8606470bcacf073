/-! WRAPPERS: answers by kind, calls that make nothing, small facts for the walks -/
def qI (L : List Nat) (P : Int → (Nat → Nat → Int) → Prop) : x_Q := fun v L' G' => L' = L ∧ ∃ x, v = some (vI x) ∧ P x G'
def qL (L : List Nat) (P : Int → (Nat → Nat → Int) → Prop) : x_Q := fun v L' G' => L' = L ∧ ∃ x, v = some (vL x) ∧ P x G'
def qV (L : List Nat) (P : (Nat → Nat → Int) → Prop) : x_Q := fun v L' G' => L' = L ∧ v = none ∧ P G'
def qR (L : List Nat) (P : Nat → (Nat → Nat → Int) → Prop) : x_Q := fun v L' G' => L' = L ∧ ∃ q : Nat, v = some (vR q) ∧ P q G'
section XR5
variable {μ : x_M} {d mc ms : Nat} {Q : x_Q} {pc : Nat} {ls : List (Option (Nat × Int))} {st : List (Nat × Int)} {L : List Nat} {G : Nat → Nat → Int} {k n : Nat}
variable {d' : Nat} {y : MethodName} {cc' : ByteArray} {nL' : Nat} {ret' : Option FieldType} {idx : Nat} {st0 : List (Nat × Int)} {as : List (Nat × Int)}
theorem x_rI {P : Int → (Nat → Nat → Int) → Prop} {x : Int} (hd : decode (x_cc μ) pc = .ok (.ireturn, 1)) (hr : x_ret μ = some .int) (hp : P x G) : X μ d mc ms (qI L P) pc ls [vI x] L G k n := x_iret hd hr ⟨rfl, x, rfl, hp⟩
theorem x_rZ {P : Int → (Nat → Nat → Int) → Prop} {x : Int} (hd : decode (x_cc μ) pc = .ok (.ireturn, 1)) (hr : x_ret μ = some .boolean) (hx : x = 0 ∨ x = 1) (hp : P x G) : X μ d mc ms (qI L P) pc ls [vI x] L G k n := x_zret hd hr hx ⟨rfl, x, rfl, hp⟩
theorem x_rL {P : Int → (Nat → Nat → Int) → Prop} {x : Int} (hd : decode (x_cc μ) pc = .ok (.lreturn, 1)) (hr : x_ret μ = some .long) (hp : P x G) : X μ d mc ms (qL L P) pc ls [vL x] L G k n := x_lret hd hr ⟨rfl, x, rfl, hp⟩
theorem x_rR {P : Nat → (Nat → Nat → Int) → Prop} {x : Nat} {nm : String} (hd : decode (x_cc μ) pc = .ok (.areturn, 1)) (hr : x_ret μ = some (.object nm)) (hp : P x G) : X μ d mc ms (qR L P) pc ls [vR x] L G k n := x_aret hd hr ⟨rfl, x, rfl, hp⟩
theorem x_rV {P : (Nat → Nat → Int) → Prop} (hd : decode (x_cc μ) pc = .ok (.return_, 1)) (hr : x_ret μ = none) (hp : P G) : X μ d mc ms (qV L P) pc ls [] L G k n := x_vret hd hr ⟨rfl, rfl, hp⟩
theorem x_cVI {r ci n0 : Nat} {P : Int → (Nat → Nat → Int) → Prop} (hd : decode (x_cc μ) pc = .ok (.invokevirtual idx, 3)) (hlk : x_lkV (x_own μ) idx y cc' nL' ret' as.length) (hct : Ct y cc' nL' ret' d' 0 0 (vR r :: as) L G (qI L P)) (hk : xK r = (ci, n0)) (hci : ci ≤ 12 ∧ (vwCl[ci]?).map (fun q => q.1) = some y.cls) (hr : r ∈ L) (hdd : d' + 1 ≤ d ∧ nL' ≤ 18) (hw : x_cats st ≤ 8) (hst : st0 = as.reverse ++ vR r :: st) (kk : ∀ (x : Int) (G' : Nat → Nat → Int), P x G' → X μ d mc ms Q (pc + 3) ls (vI x :: st) L G' k n) : X μ d mc ms Q pc ls st0 L G k n := by
  intro p l e s m args below meth c D cy B L0 ρ0 Z H locs lsA ρ C hR hE hS hl ho hv h1 h2
  exact x_callV hd hlk hct hk hci hr hdd ⟨h1, h2⟩ hw hst (fun v L' G' hq _ => by obtain ⟨rfl, x, rfl, hp⟩ := hq; exact kk x G' hp) p l e s m args below meth c D cy B L0 ρ0 Z H locs lsA ρ C hR hE hS hl ho hv h1 h2
theorem x_cVL {r ci n0 : Nat} {P : Int → (Nat → Nat → Int) → Prop} (hd : decode (x_cc μ) pc = .ok (.invokevirtual idx, 3)) (hlk : x_lkV (x_own μ) idx y cc' nL' ret' as.length) (hct : Ct y cc' nL' ret' d' 0 0 (vR r :: as) L G (qL L P)) (hk : xK r = (ci, n0)) (hci : ci ≤ 12 ∧ (vwCl[ci]?).map (fun q => q.1) = some y.cls) (hr : r ∈ L) (hdd : d' + 1 ≤ d ∧ nL' ≤ 18) (hw : x_cats st ≤ 8) (hst : st0 = as.reverse ++ vR r :: st) (kk : ∀ (x : Int) (G' : Nat → Nat → Int), P x G' → X μ d mc ms Q (pc + 3) ls (vL x :: st) L G' k n) : X μ d mc ms Q pc ls st0 L G k n := by
  intro p l e s m args below meth c D cy B L0 ρ0 Z H locs lsA ρ C hR hE hS hl ho hv h1 h2
  exact x_callV hd hlk hct hk hci hr hdd ⟨h1, h2⟩ hw hst (fun v L' G' hq _ => by obtain ⟨rfl, x, rfl, hp⟩ := hq; exact kk x G' hp) p l e s m args below meth c D cy B L0 ρ0 Z H locs lsA ρ C hR hE hS hl ho hv h1 h2
theorem x_cVR {r ci n0 : Nat} {P : Nat → (Nat → Nat → Int) → Prop} (hd : decode (x_cc μ) pc = .ok (.invokevirtual idx, 3)) (hlk : x_lkV (x_own μ) idx y cc' nL' ret' as.length) (hct : Ct y cc' nL' ret' d' 0 0 (vR r :: as) L G (qR L P)) (hk : xK r = (ci, n0)) (hci : ci ≤ 12 ∧ (vwCl[ci]?).map (fun q => q.1) = some y.cls) (hr : r ∈ L) (hdd : d' + 1 ≤ d ∧ nL' ≤ 18) (hw : x_cats st ≤ 8) (hst : st0 = as.reverse ++ vR r :: st) (kk : ∀ (q : Nat) (G' : Nat → Nat → Int), P q G' → X μ d mc ms Q (pc + 3) ls (vR q :: st) L G' k n) : X μ d mc ms Q pc ls st0 L G k n := by
  intro p l e s m args below meth c D cy B L0 ρ0 Z H locs lsA ρ C hR hE hS hl ho hv h1 h2
  exact x_callV hd hlk hct hk hci hr hdd ⟨h1, h2⟩ hw hst (fun v L' G' hq _ => by obtain ⟨rfl, q, rfl, hp⟩ := hq; exact kk q G' hp) p l e s m args below meth c D cy B L0 ρ0 Z H locs lsA ρ C hR hE hS hl ho hv h1 h2
theorem x_cVV {r ci n0 : Nat} {P : (Nat → Nat → Int) → Prop} (hd : decode (x_cc μ) pc = .ok (.invokevirtual idx, 3)) (hlk : x_lkV (x_own μ) idx y cc' nL' ret' as.length) (hct : Ct y cc' nL' ret' d' 0 0 (vR r :: as) L G (qV L P)) (hk : xK r = (ci, n0)) (hci : ci ≤ 12 ∧ (vwCl[ci]?).map (fun q => q.1) = some y.cls) (hr : r ∈ L) (hdd : d' + 1 ≤ d ∧ nL' ≤ 18) (hw : x_cats st ≤ 8) (hst : st0 = as.reverse ++ vR r :: st) (kk : ∀ (G' : Nat → Nat → Int), P G' → X μ d mc ms Q (pc + 3) ls st L G' k n) : X μ d mc ms Q pc ls st0 L G k n := by
  intro p l e s m args below meth c D cy B L0 ρ0 Z H locs lsA ρ C hR hE hS hl ho hv h1 h2
  exact x_callV hd hlk hct hk hci hr hdd ⟨h1, h2⟩ hw hst (fun v L' G' hq _ => by obtain ⟨rfl, rfl, hp⟩ := hq; exact kk G' hp) p l e s m args below meth c D cy B L0 ρ0 Z H locs lsA ρ C hR hE hS hl ho hv h1 h2
theorem x_cSI {P : Int → (Nat → Nat → Int) → Prop} (hd : decode (x_cc μ) pc = .ok (.invokestatic idx, 3)) (hlk : x_lkS (x_own μ) idx y cc' nL' ret' as.length) (hct : Ct y cc' nL' ret' d' 0 0 (as) L G (qI L P)) (hdd : d' + 1 ≤ d ∧ nL' ≤ 18) (hw : x_cats st ≤ 8) (hst : st0 = as.reverse ++ st) (kk : ∀ (x : Int) (G' : Nat → Nat → Int), P x G' → X μ d mc ms Q (pc + 3) ls (vI x :: st) L G' k n) : X μ d mc ms Q pc ls st0 L G k n := by
  intro p l e s m args below meth c D cy B L0 ρ0 Z H locs lsA ρ C hR hE hS hl ho hv h1 h2
  exact x_callS hd hlk hct hdd ⟨h1, h2⟩ hw hst (fun v L' G' hq _ => by obtain ⟨rfl, x, rfl, hp⟩ := hq; exact kk x G' hp) p l e s m args below meth c D cy B L0 ρ0 Z H locs lsA ρ C hR hE hS hl ho hv h1 h2
theorem x_cSL {P : Int → (Nat → Nat → Int) → Prop} (hd : decode (x_cc μ) pc = .ok (.invokestatic idx, 3)) (hlk : x_lkS (x_own μ) idx y cc' nL' ret' as.length) (hct : Ct y cc' nL' ret' d' 0 0 (as) L G (qL L P)) (hdd : d' + 1 ≤ d ∧ nL' ≤ 18) (hw : x_cats st ≤ 8) (hst : st0 = as.reverse ++ st) (kk : ∀ (x : Int) (G' : Nat → Nat → Int), P x G' → X μ d mc ms Q (pc + 3) ls (vL x :: st) L G' k n) : X μ d mc ms Q pc ls st0 L G k n := by
  intro p l e s m args below meth c D cy B L0 ρ0 Z H locs lsA ρ C hR hE hS hl ho hv h1 h2
  exact x_callS hd hlk hct hdd ⟨h1, h2⟩ hw hst (fun v L' G' hq _ => by obtain ⟨rfl, x, rfl, hp⟩ := hq; exact kk x G' hp) p l e s m args below meth c D cy B L0 ρ0 Z H locs lsA ρ C hR hE hS hl ho hv h1 h2
theorem x_cSR {P : Nat → (Nat → Nat → Int) → Prop} (hd : decode (x_cc μ) pc = .ok (.invokestatic idx, 3)) (hlk : x_lkS (x_own μ) idx y cc' nL' ret' as.length) (hct : Ct y cc' nL' ret' d' 0 0 (as) L G (qR L P)) (hdd : d' + 1 ≤ d ∧ nL' ≤ 18) (hw : x_cats st ≤ 8) (hst : st0 = as.reverse ++ st) (kk : ∀ (q : Nat) (G' : Nat → Nat → Int), P q G' → X μ d mc ms Q (pc + 3) ls (vR q :: st) L G' k n) : X μ d mc ms Q pc ls st0 L G k n := by
  intro p l e s m args below meth c D cy B L0 ρ0 Z H locs lsA ρ C hR hE hS hl ho hv h1 h2
  exact x_callS hd hlk hct hdd ⟨h1, h2⟩ hw hst (fun v L' G' hq _ => by obtain ⟨rfl, q, rfl, hp⟩ := hq; exact kk q G' hp) p l e s m args below meth c D cy B L0 ρ0 Z H locs lsA ρ C hR hE hS hl ho hv h1 h2
theorem x_cSV {P : (Nat → Nat → Int) → Prop} (hd : decode (x_cc μ) pc = .ok (.invokestatic idx, 3)) (hlk : x_lkS (x_own μ) idx y cc' nL' ret' as.length) (hct : Ct y cc' nL' ret' d' 0 0 (as) L G (qV L P)) (hdd : d' + 1 ≤ d ∧ nL' ≤ 18) (hw : x_cats st ≤ 8) (hst : st0 = as.reverse ++ st) (kk : ∀ (G' : Nat → Nat → Int), P G' → X μ d mc ms Q (pc + 3) ls st L G' k n) : X μ d mc ms Q pc ls st0 L G k n := by
  intro p l e s m args below meth c D cy B L0 ρ0 Z H locs lsA ρ C hR hE hS hl ho hv h1 h2
  exact x_callS hd hlk hct hdd ⟨h1, h2⟩ hw hst (fun v L' G' hq _ => by obtain ⟨rfl, rfl, hp⟩ := hq; exact kk G' hp) p l e s m args below meth c D cy B L0 ρ0 Z H locs lsA ρ C hR hE hS hl ho hv h1 h2
theorem x_cSNI {host : String} {P : Int → (Nat → Nat → Int) → Prop} (hd : decode (x_cc μ) pc = .ok (.invokestatic idx, 3)) (hlk : x_lkSN (x_own μ) host idx y cc' nL' ret' as.length) (hct : Ct y cc' nL' ret' d' 0 0 (as) L G (qI L P)) (hdd : d' + 1 ≤ d ∧ nL' ≤ 18) (hw : x_cats st ≤ 8) (hst : st0 = as.reverse ++ st) (kk : ∀ (x : Int) (G' : Nat → Nat → Int), P x G' → X μ d mc ms Q (pc + 3) ls (vI x :: st) L G' k n) : X μ d mc ms Q pc ls st0 L G k n := by
  intro p l e s m args below meth c D cy B L0 ρ0 Z H locs lsA ρ C hR hE hS hl ho hv h1 h2
  exact x_callSN hd hlk hct hdd ⟨h1, h2⟩ hw hst (fun v L' G' hq _ => by obtain ⟨rfl, x, rfl, hp⟩ := hq; exact kk x G' hp) p l e s m args below meth c D cy B L0 ρ0 Z H locs lsA ρ C hR hE hS hl ho hv h1 h2
theorem x_cSNL {host : String} {P : Int → (Nat → Nat → Int) → Prop} (hd : decode (x_cc μ) pc = .ok (.invokestatic idx, 3)) (hlk : x_lkSN (x_own μ) host idx y cc' nL' ret' as.length) (hct : Ct y cc' nL' ret' d' 0 0 (as) L G (qL L P)) (hdd : d' + 1 ≤ d ∧ nL' ≤ 18) (hw : x_cats st ≤ 8) (hst : st0 = as.reverse ++ st) (kk : ∀ (x : Int) (G' : Nat → Nat → Int), P x G' → X μ d mc ms Q (pc + 3) ls (vL x :: st) L G' k n) : X μ d mc ms Q pc ls st0 L G k n := by
  intro p l e s m args below meth c D cy B L0 ρ0 Z H locs lsA ρ C hR hE hS hl ho hv h1 h2
  exact x_callSN hd hlk hct hdd ⟨h1, h2⟩ hw hst (fun v L' G' hq _ => by obtain ⟨rfl, x, rfl, hp⟩ := hq; exact kk x G' hp) p l e s m args below meth c D cy B L0 ρ0 Z H locs lsA ρ C hR hE hS hl ho hv h1 h2
theorem x_cSNR {host : String} {P : Nat → (Nat → Nat → Int) → Prop} (hd : decode (x_cc μ) pc = .ok (.invokestatic idx, 3)) (hlk : x_lkSN (x_own μ) host idx y cc' nL' ret' as.length) (hct : Ct y cc' nL' ret' d' 0 0 (as) L G (qR L P)) (hdd : d' + 1 ≤ d ∧ nL' ≤ 18) (hw : x_cats st ≤ 8) (hst : st0 = as.reverse ++ st) (kk : ∀ (q : Nat) (G' : Nat → Nat → Int), P q G' → X μ d mc ms Q (pc + 3) ls (vR q :: st) L G' k n) : X μ d mc ms Q pc ls st0 L G k n := by
  intro p l e s m args below meth c D cy B L0 ρ0 Z H locs lsA ρ C hR hE hS hl ho hv h1 h2
  exact x_callSN hd hlk hct hdd ⟨h1, h2⟩ hw hst (fun v L' G' hq _ => by obtain ⟨rfl, q, rfl, hp⟩ := hq; exact kk q G' hp) p l e s m args below meth c D cy B L0 ρ0 Z H locs lsA ρ C hR hE hS hl ho hv h1 h2
theorem x_cSNV {host : String} {P : (Nat → Nat → Int) → Prop} (hd : decode (x_cc μ) pc = .ok (.invokestatic idx, 3)) (hlk : x_lkSN (x_own μ) host idx y cc' nL' ret' as.length) (hct : Ct y cc' nL' ret' d' 0 0 (as) L G (qV L P)) (hdd : d' + 1 ≤ d ∧ nL' ≤ 18) (hw : x_cats st ≤ 8) (hst : st0 = as.reverse ++ st) (kk : ∀ (G' : Nat → Nat → Int), P G' → X μ d mc ms Q (pc + 3) ls st L G' k n) : X μ d mc ms Q pc ls st0 L G k n := by
  intro p l e s m args below meth c D cy B L0 ρ0 Z H locs lsA ρ C hR hE hS hl ho hv h1 h2
  exact x_callSN hd hlk hct hdd ⟨h1, h2⟩ hw hst (fun v L' G' hq _ => by obtain ⟨rfl, rfl, hp⟩ := hq; exact kk G' hp) p l e s m args below meth c D cy B L0 ρ0 Z H locs lsA ρ C hR hE hS hl ho hv h1 h2
theorem x_cIV {r : Nat} {P : (Nat → Nat → Int) → Prop} (hd : decode (x_cc μ) pc = .ok (.invokespecial idx, 3)) (hlk : x_lkI (x_own μ) idx y cc' nL' as.length) (hct : Ct y cc' nL' none d' 0 0 (vR r :: as) L G (qV L P)) (hr : r ∈ L) (hdd : d' + 1 ≤ d ∧ nL' ≤ 18) (hw : x_cats st ≤ 8) (hst : st0 = as.reverse ++ vR r :: st) (kk : ∀ (G' : Nat → Nat → Int), P G' → X μ d mc ms Q (pc + 3) ls st L G' k n) : X μ d mc ms Q pc ls st0 L G k n := by
  intro p l e s m args below meth c D cy B L0 ρ0 Z H locs lsA ρ C hR hE hS hl ho hv h1 h2
  exact x_callI hd hlk hct hr hdd ⟨h1, h2⟩ hw hst (fun v L' G' hq _ => by obtain ⟨rfl, rfl, hp⟩ := hq; exact kk G' hp) p l e s m args below meth c D cy B L0 ρ0 Z H locs lsA ρ C hR hE hS hl ho hv h1 h2
theorem x_cINV {host : String} {r : Nat} {P : (Nat → Nat → Int) → Prop} (hd : decode (x_cc μ) pc = .ok (.invokespecial idx, 3)) (hlk : x_lkIN (x_own μ) host idx y cc' nL' as.length) (hct : Ct y cc' nL' none d' 0 0 (vR r :: as) L G (qV L P)) (hr : r ∈ L) (hdd : d' + 1 ≤ d ∧ nL' ≤ 18) (hw : x_cats st ≤ 8) (hst : st0 = as.reverse ++ vR r :: st) (kk : ∀ (G' : Nat → Nat → Int), P G' → X μ d mc ms Q (pc + 3) ls st L G' k n) : X μ d mc ms Q pc ls st0 L G k n := by
  intro p l e s m args below meth c D cy B L0 ρ0 Z H locs lsA ρ C hR hE hS hl ho hv h1 h2
  exact x_callIN hd hlk hct hr hdd ⟨h1, h2⟩ hw hst (fun v L' G' hq _ => by obtain ⟨rfl, rfl, hp⟩ := hq; exact kk G' hp) p l e s m args below meth c D cy B L0 ρ0 Z H locs lsA ρ C hR hE hS hl ho hv h1 h2
theorem x_objI {i r : Nat} (hd : decode (x_cc μ) pc = .ok (.invokespecial i, 3)) (hlk : Cond.methodLink (x_own μ) i Lib.objectInit ∈ x_tb) (hdd : 1 ≤ d) (hw : x_cats st ≤ 8) (kk : X μ d mc ms Q (pc + 3) ls st L G k n) : X μ d mc ms Q pc ls (vR r :: st) L G k n := by
  intro p l e s m args below meth c D cy B L0 ρ0 Z H locs lsA ρ C hR hE hS hl ho hv h1 h2
  refine x_eqW (s2 := .ref (ρ r) :: st.map (x_rv ρ)) (by rw [List.map_cons, x_rvR]) ?_
  exact W.objInit C.1 C.2.1 C.2.2.2.1 (C.2.2.2.2.1 _ hlk) (C.2.2.2.2.1 _ li_O) (C.2.2.2.2.1 _ lb_O) rfl (hl.1.trans C.2.2.1.symm) rfl hd hdd (by show 2 * 0 + _ + 12 ≤ 37 * d + 8; rw [x_cats_eq]; omega) (kk p l e s m args below meth c D cy B L0 ρ0 Z H locs lsA ρ C hR hE hS hl (x_okt ho) hv h1 h2)
theorem x_mmax {i : Nat} {x y : Int} (hd : decode (x_cc μ) pc = .ok (.invokestatic i, 3)) (hlk : x_lkS (x_own μ) i yJ9_max_7cf53 cJ9_max_7cf53 2 (some .int) 2) (hdd : 1 ≤ d) (hw : x_cats st ≤ 8) (hb : -2147483648 ≤ x ∧ x < 2147483648 ∧ -2147483648 ≤ y ∧ y < 2147483648) (kk : X μ d mc ms Q (pc + 3) ls (vI (max x y) :: st) L G k n) : X μ d mc ms Q pc ls (vI y :: vI x :: st) L G k n := by
  intro p l e s m args below meth c D cy B L0 ρ0 Z H locs lsA ρ C hR hE hS hl ho hv h1 h2
  obtain ⟨⟨w1, w2, w3, w4, w5⟩, w6, w7⟩ := hlk
  have hts := C.2.2.2.2.1
  refine va_mmax C.1 C.2.1 (C.2.2.1.trans hl.1.symm) C.2.2.2.1 (hts _ w6) (hts _ w7) (hts _ w2) (hts _ w1) hdd (by show _ + 13 ≤ 37 * d + 8; rw [x_cats_eq]; omega) h1 h2 hd ?_
  refine x_eqW (s2 := (vI (max x y) :: st).map (x_rv ρ)) ?_ (kk p l e s m args below meth c D cy B L0 ρ0 Z H locs lsA ρ C hR hE hS hl (x_okA x_okI (x_okt ho)) hv h1 h2)
  rw [List.map_cons, x_rvI]
  refine congrArg (fun z => Value.int z :: st.map (x_rv ρ)) ?_
  have e := z_lt hb
  by_cases c : x < y
  · rw [if_pos (e.mpr c), Int.max_eq_right (by omega)]
  · rw [if_neg (fun w => c (e.mp w)), Int.max_eq_left (by omega)]
theorem x_mmin {i : Nat} {x y : Int} (hd : decode (x_cc μ) pc = .ok (.invokestatic i, 3)) (hlk : x_lkS (x_own μ) i yJ9_min_7cf53 cJ9_min_7cf53 2 (some .int) 2) (hdd : 1 ≤ d) (hw : x_cats st ≤ 8) (hb : -2147483648 ≤ x ∧ x < 2147483648 ∧ -2147483648 ≤ y ∧ y < 2147483648) (kk : X μ d mc ms Q (pc + 3) ls (vI (min x y) :: st) L G k n) : X μ d mc ms Q pc ls (vI y :: vI x :: st) L G k n := by
  intro p l e s m args below meth c D cy B L0 ρ0 Z H locs lsA ρ C hR hE hS hl ho hv h1 h2
  obtain ⟨⟨w1, w2, w3, w4, w5⟩, w6, w7⟩ := hlk
  have hts := C.2.2.2.2.1
  refine va_mmin C.1 C.2.1 (C.2.2.1.trans hl.1.symm) C.2.2.2.1 (hts _ w6) (hts _ w7) (hts _ w2) (hts _ w1) hdd (by show _ + 13 ≤ 37 * d + 8; rw [x_cats_eq]; omega) h1 h2 hd ?_
  refine x_eqW (s2 := (vI (min x y) :: st).map (x_rv ρ)) ?_ (kk p l e s m args below meth c D cy B L0 ρ0 Z H locs lsA ρ C hR hE hS hl (x_okA x_okI (x_okt ho)) hv h1 h2)
  rw [List.map_cons, x_rvI]
  refine congrArg (fun z => Value.int z :: st.map (x_rv ρ)) ?_
  have e2 := z_lt (x := y) (y := x) ⟨hb.2.2.1, hb.2.2.2, hb.1, hb.2.1⟩
  by_cases c : y < x
  · rw [if_pos (e2.mpr c), Int.min_eq_right (by omega)]
  · rw [if_neg (fun w => c (e2.mp w)), Int.min_eq_left (by omega)]
theorem x_getLn {idx n0 r : Nat} {ref : String} (hd : decode (x_cc μ) pc = .ok (.getfield idx, 3)) (hf : Cond.fieldLinkNest (x_own μ) idx (TX6 3).1 (TX6 3).2.1 (TX6 3).2.2.1 "TwoSides" ∈ lw_tbl) (hk : xK r = (6, n0)) (hr : r ∈ L) (kk : X μ d mc ms Q (pc + 3) ls (vL (G r 3) :: st) L G k n) : X μ d mc ms Q pc ls (vR r :: st) L G k n := by
  intro p l e s m args below meth c D cy B L0 ρ0 Z H locs lsA ρ C hR hE hS hl ho hv h1 h2
  obtain ⟨z, hz⟩ := x_mem hr
  have hw := x_wl_at (cy := cy) (ρ := ρ) (G := G) hz
  rw [x_ceO hk (by decide)] at hw
  refine x_eqW (s2 := .ref (ρ r) :: st.map (x_rv ρ)) (by rw [List.map_cons, x_rvR]) ?_
  refine va_getN (v := .long (Int64.ofInt (G r 3))) (T := TX6) (N := 5) C.1 C.2.1 C.2.2.2.2.1 inX6 C.2.2.2.1 C.2.2.2.2.2.1.1 hR.1 z hw rfl 3 (by decide) (va_Nw.use rfl (C.2.2.2.2.2.1.2 _ hf rfl)) (fun _ h => h) ((x_mi_at rfl).trans rfl) hd ?_
  exact kk p l e s m args below meth c D cy B L0 ρ0 Z H locs lsA ρ C hR hE hS hl (x_okA x_okL ho) hv h1 h2
theorem x_getIn {idx n0 r : Nat} {ref : String} (hd : decode (x_cc μ) pc = .ok (.getfield idx, 3)) (hf : Cond.fieldLinkNest (x_own μ) idx (TX6 4).1 (TX6 4).2.1 (TX6 4).2.2.1 "TwoSides" ∈ lw_tbl) (hk : xK r = (6, n0)) (hr : r ∈ L) (kk : X μ d mc ms Q (pc + 3) ls (vI (G r 4) :: st) L G k n) : X μ d mc ms Q pc ls (vR r :: st) L G k n := by
  intro p l e s m args below meth c D cy B L0 ρ0 Z H locs lsA ρ C hR hE hS hl ho hv h1 h2
  obtain ⟨z, hz⟩ := x_mem hr
  have hw := x_wl_at (cy := cy) (ρ := ρ) (G := G) hz
  rw [x_ceO hk (by decide)] at hw
  refine x_eqW (s2 := .ref (ρ r) :: st.map (x_rv ρ)) (by rw [List.map_cons, x_rvR]) ?_
  refine va_getN (v := .int (Int32.ofInt (G r 4))) (T := TX6) (N := 5) C.1 C.2.1 C.2.2.2.2.1 inX6 C.2.2.2.1 C.2.2.2.2.2.1.1 hR.1 z hw rfl 4 (by decide) (va_Nw.use rfl (C.2.2.2.2.2.1.2 _ hf rfl)) (fun _ h => h) ((x_mi_at rfl).trans rfl) hd ?_
  exact kk p l e s m args below meth c D cy B L0 ρ0 Z H locs lsA ρ C hR hE hS hl (x_okA x_okI ho) hv h1 h2
end XR5
/-! final fields stay -/
theorem x_FLk : ∀ t ∈ xFL, (xFT (xK t.1).1)[t.2.1]? = some 2 ∨ 16 ≤ (xK t.1).1 := by decide +kernel
theorem x_GLk : ∀ t ∈ xGL, (xFT (xK t.1).1)[t.2.1]? = some 2 ∨ 16 ≤ (xK t.1).1 := by decide +kernel
theorem x_FTn {ci : Nat} (h : 16 ≤ ci) : xFT ci = [] := by
  unfold xFT
  split <;> first | rfl | omega
theorem x_FinG {l : List (Nat × Nat × Nat)} (hl : ∀ t ∈ l, (xFT (xK t.1).1)[t.2.1]? = some 2 ∨ 16 ≤ (xK t.1).1) {G : Nat → Nat → Int} {r kf : Nat} {z : Int} (h : x_Fin l G) (hn : x_isR (xK r) kf = false) : x_Fin l (x_up G r kf z) := by
  intro t ht
  unfold x_up
  by_cases hc : t.1 = r ∧ t.2.1 = kf
  · exfalso
    obtain ⟨rfl, rfl⟩ := hc
    unfold x_isR at hn
    rcases hl t ht with h2 | h2
    · split at hn
      · rw [h2] at hn; cases hn
      · have : xFT (xK t.1).1 = [] := by
          by_cases h3 : 16 ≤ (xK t.1).1
          · exact x_FTn h3
          · unfold xFT
            split <;> first | rfl | omega
        rw [this] at h2; cases h2
    · rw [if_neg (by omega)] at hn
      have := of_decide_eq_false hn
      omega
  · rw [if_neg hc]; exact h t ht
theorem x_FinP {G : Nat → Nat → Int} {r ci n0 kf t : Nat} {z : Int} (h : x_Fin xFL G) (hk : xK r = (ci, n0)) (hf : (xFT ci)[kf]? = some t) (ht : t ≠ 2 ∧ ci ≤ 12) : x_Fin xFL (x_up G r kf z) :=
  x_FinG x_FLk h (by rw [hk]; unfold x_isR; rw [if_pos ht.2, hf]; simp [ht.1])
theorem x_FinA {G : Nat → Nat → Int} {r t n0 j : Nat} {z : Int} (h : x_Fin xFL G) (hk : xK r = (t, n0)) (ht : 13 ≤ t ∧ t ≤ 15) : x_Fin xFL (x_up G r j z) :=
  x_FinG x_FLk h (by rw [hk]; unfold x_isR; rw [if_neg (by show ¬ t ≤ 12; omega)]; exact decide_eq_false (by show ¬ 16 ≤ t; omega))
theorem x_GinP {G : Nat → Nat → Int} {r ci n0 kf t : Nat} {z : Int} (h : x_Fin xGL G) (hk : xK r = (ci, n0)) (hf : (xFT ci)[kf]? = some t) (ht : t ≠ 2 ∧ ci ≤ 12) : x_Fin xGL (x_up G r kf z) :=
  x_FinG x_GLk h (by rw [hk]; unfold x_isR; rw [if_pos ht.2, hf]; simp [ht.1])
theorem x_GinA {G : Nat → Nat → Int} {r t n0 j : Nat} {z : Int} (h : x_Fin xGL G) (hk : xK r = (t, n0)) (ht : 13 ≤ t ∧ t ≤ 15) : x_Fin xGL (x_up G r j z) :=
  x_FinG x_GLk h (by rw [hk]; unfold x_isR; rw [if_neg (by show ¬ t ≤ 12; omega)]; exact decide_eq_false (by show ¬ 16 ≤ t; omega))
/-- what stands behind the two constructors -/
def x_SL (L : List Nat) : Prop := ∀ i, 1 ≤ i → i < 167 → i ∈ L
section XR6
variable {μ : x_M} {d mc ms : Nat} {Q : x_Q} {pc : Nat} {ls : List (Option (Nat × Int))} {st : List (Nat × Int)} {L : List Nat} {G : Nat → Nat → Int} {k n : Nat}
theorem x_putIF {idx ci kf n0 r : Nat} {x : Int} {pc : Nat} (hd : decode (x_cc μ) pc = .ok (.putfield idx, 3)) (hf : x_fp (x_own μ) idx ci kf 0 false) (hk : xK r = (ci, n0)) (hr : r ∈ L) (hF : x_Fin xFL G) (kk : x_Fin xFL (x_up G r kf x) → X μ d mc ms Q (pc + 3) ls st L (x_up G r kf x) k n) : X μ d mc ms Q pc ls (vI x :: vR r :: st) L G k n := by
  obtain ⟨_, _, _, _, _, _, _, _, h5, h6, _⟩ := id hf
  exact x_putI hd hf hk hr (kk (x_FinP hF hk h5 ⟨by decide, h6⟩))
theorem x_putLF {idx ci kf n0 r : Nat} {x : Int} {pc : Nat} (hd : decode (x_cc μ) pc = .ok (.putfield idx, 3)) (hf : x_fp (x_own μ) idx ci kf 1 false) (hk : xK r = (ci, n0)) (hr : r ∈ L) (hF : x_Fin xFL G) (kk : x_Fin xFL (x_up G r kf x) → X μ d mc ms Q (pc + 3) ls st L (x_up G r kf x) k n) : X μ d mc ms Q pc ls (vL x :: vR r :: st) L G k n := by
  obtain ⟨_, _, _, _, _, _, _, _, h5, h6, _⟩ := id hf
  exact x_putL hd hf hk hr (kk (x_FinP hF hk h5 ⟨by decide, h6⟩))
theorem x_putZF {idx ci kf n0 r : Nat} {x : Int} {pc : Nat} (hd : decode (x_cc μ) pc = .ok (.putfield idx, 3)) (hf : x_fp (x_own μ) idx ci kf 3 false) (hk : xK r = (ci, n0)) (hr : r ∈ L) (hx : x = 0 ∨ x = 1) (hF : x_Fin xFL G) (kk : x_Fin xFL (x_up G r kf x) → X μ d mc ms Q (pc + 3) ls st L (x_up G r kf x) k n) : X μ d mc ms Q pc ls (vI x :: vR r :: st) L G k n := by
  obtain ⟨_, _, _, _, _, _, _, _, h5, h6, _⟩ := id hf
  exact x_putZ hd hf hk hr hx (kk (x_FinP hF hk h5 ⟨by decide, h6⟩))
theorem x_iastF {N r : Nat} (j : Nat) {a : Int} {x : Int} {pc : Nat} (hd : decode (x_cc μ) pc = .ok (.iastore, 1)) (hk : xK r = (13, N)) (hr : r ∈ L) (hj : a = (j : Int) ∧ j < N ∧ N < 2147483648) (hF : x_Fin xFL G) (kk : x_Fin xFL (x_up G r j x) → X μ d mc ms Q (pc + 1) ls st L (x_up G r j x) k n) : X μ d mc ms Q pc ls (vI x :: vI a :: vR r :: st) L G k n := x_iast j hd hk hr hj (kk (x_FinA hF hk (by decide)))
theorem x_lastF {N r : Nat} (j : Nat) {a : Int} {x : Int} {pc : Nat} (hd : decode (x_cc μ) pc = .ok (.lastore, 1)) (hk : xK r = (14, N)) (hr : r ∈ L) (hj : a = (j : Int) ∧ j < N ∧ N < 2147483648) (hF : x_Fin xFL G) (kk : x_Fin xFL (x_up G r j x) → X μ d mc ms Q (pc + 1) ls st L (x_up G r j x) k n) : X μ d mc ms Q pc ls (vL x :: vI a :: vR r :: st) L G k n := x_last j hd hk hr hj (kk (x_FinA hF hk (by decide)))
theorem x_zastF {N r : Nat} (j : Nat) {a : Int} {x : Int} {pc : Nat} (hd : decode (x_cc μ) pc = .ok (.bastore, 1)) (hk : xK r = (15, N)) (hr : r ∈ L) (hj : a = (j : Int) ∧ j < N ∧ N < 2147483648) (hx : x = 0 ∨ x = 1) (hF : x_Fin xFL G) (kk : x_Fin xFL (x_up G r j x) → X μ d mc ms Q (pc + 1) ls st L (x_up G r j x) k n) : X μ d mc ms Q pc ls (vI x :: vI a :: vR r :: st) L G k n := x_zast j hd hk hr hj hx (kk (x_FinA hF hk (by decide)))
theorem x_putIH {idx ci kf n0 r : Nat} {x : Int} {pc : Nat} (hd : decode (x_cc μ) pc = .ok (.putfield idx, 3)) (hf : x_fp (x_own μ) idx ci kf 0 false) (hk : xK r = (ci, n0)) (hr : r ∈ L) (hF : x_Fin xFL G) (hG : x_Fin xGL G) (kk : x_Fin xFL (x_up G r kf x) → x_Fin xGL (x_up G r kf x) → X μ d mc ms Q (pc + 3) ls st L (x_up G r kf x) k n) : X μ d mc ms Q pc ls (vI x :: vR r :: st) L G k n := by
  obtain ⟨_, _, _, _, _, _, _, _, h5, h6, _⟩ := id hf
  exact x_putI hd hf hk hr (kk (x_FinP hF hk h5 ⟨by decide, h6⟩) (x_GinP hG hk h5 ⟨by decide, h6⟩))
theorem x_putLH {idx ci kf n0 r : Nat} {x : Int} {pc : Nat} (hd : decode (x_cc μ) pc = .ok (.putfield idx, 3)) (hf : x_fp (x_own μ) idx ci kf 1 false) (hk : xK r = (ci, n0)) (hr : r ∈ L) (hF : x_Fin xFL G) (hG : x_Fin xGL G) (kk : x_Fin xFL (x_up G r kf x) → x_Fin xGL (x_up G r kf x) → X μ d mc ms Q (pc + 3) ls st L (x_up G r kf x) k n) : X μ d mc ms Q pc ls (vL x :: vR r :: st) L G k n := by
  obtain ⟨_, _, _, _, _, _, _, _, h5, h6, _⟩ := id hf
  exact x_putL hd hf hk hr (kk (x_FinP hF hk h5 ⟨by decide, h6⟩) (x_GinP hG hk h5 ⟨by decide, h6⟩))
theorem x_putZH {idx ci kf n0 r : Nat} {x : Int} {pc : Nat} (hd : decode (x_cc μ) pc = .ok (.putfield idx, 3)) (hf : x_fp (x_own μ) idx ci kf 3 false) (hk : xK r = (ci, n0)) (hr : r ∈ L) (hx : x = 0 ∨ x = 1) (hF : x_Fin xFL G) (hG : x_Fin xGL G) (kk : x_Fin xFL (x_up G r kf x) → x_Fin xGL (x_up G r kf x) → X μ d mc ms Q (pc + 3) ls st L (x_up G r kf x) k n) : X μ d mc ms Q pc ls (vI x :: vR r :: st) L G k n := by
  obtain ⟨_, _, _, _, _, _, _, _, h5, h6, _⟩ := id hf
  exact x_putZ hd hf hk hr hx (kk (x_FinP hF hk h5 ⟨by decide, h6⟩) (x_GinP hG hk h5 ⟨by decide, h6⟩))
theorem x_iastH {N r : Nat} (j : Nat) {a : Int} {x : Int} {pc : Nat} (hd : decode (x_cc μ) pc = .ok (.iastore, 1)) (hk : xK r = (13, N)) (hr : r ∈ L) (hj : a = (j : Int) ∧ j < N ∧ N < 2147483648) (hF : x_Fin xFL G) (hG : x_Fin xGL G) (kk : x_Fin xFL (x_up G r j x) → x_Fin xGL (x_up G r j x) → X μ d mc ms Q (pc + 1) ls st L (x_up G r j x) k n) : X μ d mc ms Q pc ls (vI x :: vI a :: vR r :: st) L G k n := x_iast j hd hk hr hj (kk (x_FinA hF hk (by decide)) (x_GinA hG hk (by decide)))
theorem x_lastH {N r : Nat} (j : Nat) {a : Int} {x : Int} {pc : Nat} (hd : decode (x_cc μ) pc = .ok (.lastore, 1)) (hk : xK r = (14, N)) (hr : r ∈ L) (hj : a = (j : Int) ∧ j < N ∧ N < 2147483648) (hF : x_Fin xFL G) (hG : x_Fin xGL G) (kk : x_Fin xFL (x_up G r j x) → x_Fin xGL (x_up G r j x) → X μ d mc ms Q (pc + 1) ls st L (x_up G r j x) k n) : X μ d mc ms Q pc ls (vL x :: vI a :: vR r :: st) L G k n := x_last j hd hk hr hj (kk (x_FinA hF hk (by decide)) (x_GinA hG hk (by decide)))
theorem x_zastH {N r : Nat} (j : Nat) {a : Int} {x : Int} {pc : Nat} (hd : decode (x_cc μ) pc = .ok (.bastore, 1)) (hk : xK r = (15, N)) (hr : r ∈ L) (hj : a = (j : Int) ∧ j < N ∧ N < 2147483648) (hx : x = 0 ∨ x = 1) (hF : x_Fin xFL G) (hG : x_Fin xGL G) (kk : x_Fin xFL (x_up G r j x) → x_Fin xGL (x_up G r j x) → X μ d mc ms Q (pc + 1) ls st L (x_up G r j x) k n) : X μ d mc ms Q pc ls (vI x :: vI a :: vR r :: st) L G k n := x_zast j hd hk hr hj hx (kk (x_FinA hF hk (by decide)) (x_GinA hG hk (by decide)))
theorem X.imp {Q1 : x_Q} (h : ∀ v L' G', Q1 v L' G' → Q v L' G') (kk : X μ d mc ms Q1 pc ls st L G k n) : X μ d mc ms Q pc ls st L G k n := by
  intro p l e s m args below meth c D cy B L0 ρ0 Z H locs lsA ρ C hR hE hS hl ho hv h1 h2
  obtain ⟨a1, a2, a3, a4, a5, a6, a7, a8, a9, a10⟩ := C
  exact kk p l e s m args below meth c D cy B L0 ρ0 Z H locs lsA ρ ⟨a1, a2, a3, a4, a5, a6, a7, a8, a9, fun v L' G' ρ' H' locs' k n pc' ls' hq => a10 v L' G' ρ' H' locs' k n pc' ls' (h v L' G' hq)⟩ hR hE hS hl ho hv h1 h2
end XR6
