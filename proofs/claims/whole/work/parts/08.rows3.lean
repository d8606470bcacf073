/-! ROWS, third: fields and arrays -/
def x_tyOK (t : Nat) (ty : FieldType) : Prop := (t = 0 ∧ ty = .int) ∨ (t = 1 ∧ ty = .long) ∨ (t = 3 ∧ ty = .boolean) ∨ (t = 2 ∧ ((∃ n, ty = .object n) ∨ ∃ u, ty = .array u))
def x_fl (own : String) (idx ci kf t : Nat) : Prop := ∃ (C : String) (T : u_T) (N : Nat), vwCl[ci]? = some (C, T, N) ∧ kf < N ∧ (∀ w ∈ u_ws C T N, w ∈ x_tb) ∧ Cond.fieldLink own idx (T kf).1 (T kf).2.1 (T kf).2.2.1 ∈ x_tb ∧ (xFT ci)[kf]? = some t ∧ ci ≤ 12
def x_fp (own : String) (idx ci kf t : Nat) (fin : Bool) : Prop := ∃ (C : String) (T : u_T) (N : Nat) (ty : Nat → FieldType), vwCl[ci]? = some (C, T, N) ∧ kf < N ∧ (∀ w ∈ u_ws C T N, w ∈ x_tb) ∧ Cond.fieldLink own idx (T kf).1 (T kf).2.1 (T kf).2.2.1 ∈ x_tb ∧ (xFT ci)[kf]? = some t ∧ ci ≤ 12 ∧ (∀ k, k < N → parseFieldDescriptor (T k).2.2.1 = some (ty k)) ∧ (∀ a, a < N → ∀ b, b < N → a ≠ b → (T a).2.1 ≠ (T b).2.1) ∧ (T kf).2.2.2 = fin ∧ x_tyOK t (ty kf) ∧ (fin = true → (T kf).1 = own)
theorem x_mi_at {ρ : Nat → Nat} {l : List Nat} {g : Nat → Int} {k t : Nat} (h : l[k]? = some t) : (l.mapIdx (fun j t => x_fv ρ t (g j)))[k]? = some (x_fv ρ t (g k)) := by
  rw [List.getElem?_mapIdx, h]; rfl
theorem x_mi_set {ρ : Nat → Nat} {l : List Nat} {g g' : Nat → Int} {k t : Nat} {v : Value} (h : l[k]? = some t) (ho : ∀ j, j ≠ k → g' j = g j) (hv : v = x_fv ρ t (g' k)) : (l.mapIdx (fun j t => x_fv ρ t (g j))).set k v = l.mapIdx (fun j t => x_fv ρ t (g' j)) := by
  have hlt := (List.getElem?_eq_some_iff.mp h).1
  apply List.ext_getElem?
  intro j
  by_cases hj : j = k
  · subst hj
    rw [List.getElem?_set_self (by simpa using hlt), x_mi_at h, hv]
  · rw [List.getElem?_set_ne (Ne.symm hj), List.getElem?_mapIdx, List.getElem?_mapIdx]
    cases l[j]? with
    | none => rfl
    | some t => simp [ho j hj]
section XR3
variable {μ : x_M} {d mc ms : Nat} {Q : x_Q} {pc : Nat} {ls : List (Option (Nat × Int))} {st : List (Nat × Int)} {L : List Nat} {G : Nat → Nat → Int} {k n : Nat}
theorem x_getI {idx ci kf n0 r : Nat}  {pc : Nat} (hd : decode (x_cc μ) pc = .ok (.getfield idx, 3)) (hf : x_fl (x_own μ) idx ci kf 0) (hk : xK r = (ci, n0)) (hr : r ∈ L)  (kk : X μ d mc ms Q (pc + 3) ls (vI (G r kf) :: st) L G k n) : X μ d mc ms Q pc ls (vR r :: st) L G k n := by
  intro p l e s m args below meth c D cy B L0 ρ0 Z H locs lsA ρ C hR hE hS hl ho hv h1 h2
  obtain ⟨z, hz⟩ := x_mem hr
  obtain ⟨Cn, T, N, e1, e2, e3, e4, e5, e6⟩ := hf
  have hw := x_wl_at (cy := cy) (ρ := ρ) (G := G) hz
  rw [x_ceO hk e6] at hw
  refine x_eqW (s2 := .ref (ρ r) :: st.map (x_rv ρ)) (by rw [List.map_cons, x_rvR]) ?_
  refine va_get (v := .int (Int32.ofInt (G r kf))) C.1 C.2.1 C.2.2.2.2.1 e3 C.2.2.2.1 C.2.2.2.2.2.1.1 hR.1 z hw e1 kf e2 (C.2.2.2.2.1 _ e4) (fun _ h => h) ((x_mi_at e5).trans (by rfl)) hd ?_
  exact kk p l e s m args below meth c D cy B L0 ρ0 Z H locs lsA ρ C hR hE hS hl (x_okA x_okI ho) hv h1 h2
theorem x_getZ {idx ci kf n0 r : Nat}  {pc : Nat} (hd : decode (x_cc μ) pc = .ok (.getfield idx, 3)) (hf : x_fl (x_own μ) idx ci kf 3) (hk : xK r = (ci, n0)) (hr : r ∈ L)  (kk : X μ d mc ms Q (pc + 3) ls (vI (G r kf) :: st) L G k n) : X μ d mc ms Q pc ls (vR r :: st) L G k n := by
  intro p l e s m args below meth c D cy B L0 ρ0 Z H locs lsA ρ C hR hE hS hl ho hv h1 h2
  obtain ⟨z, hz⟩ := x_mem hr
  obtain ⟨Cn, T, N, e1, e2, e3, e4, e5, e6⟩ := hf
  have hw := x_wl_at (cy := cy) (ρ := ρ) (G := G) hz
  rw [x_ceO hk e6] at hw
  refine x_eqW (s2 := .ref (ρ r) :: st.map (x_rv ρ)) (by rw [List.map_cons, x_rvR]) ?_
  refine va_get (v := .int (Int32.ofInt (G r kf))) C.1 C.2.1 C.2.2.2.2.1 e3 C.2.2.2.1 C.2.2.2.2.2.1.1 hR.1 z hw e1 kf e2 (C.2.2.2.2.1 _ e4) (fun _ h => h) ((x_mi_at e5).trans (by rfl)) hd ?_
  exact kk p l e s m args below meth c D cy B L0 ρ0 Z H locs lsA ρ C hR hE hS hl (x_okA x_okI ho) hv h1 h2
theorem x_getL {idx ci kf n0 r : Nat}  {pc : Nat} (hd : decode (x_cc μ) pc = .ok (.getfield idx, 3)) (hf : x_fl (x_own μ) idx ci kf 1) (hk : xK r = (ci, n0)) (hr : r ∈ L)  (kk : X μ d mc ms Q (pc + 3) ls (vL (G r kf) :: st) L G k n) : X μ d mc ms Q pc ls (vR r :: st) L G k n := by
  intro p l e s m args below meth c D cy B L0 ρ0 Z H locs lsA ρ C hR hE hS hl ho hv h1 h2
  obtain ⟨z, hz⟩ := x_mem hr
  obtain ⟨Cn, T, N, e1, e2, e3, e4, e5, e6⟩ := hf
  have hw := x_wl_at (cy := cy) (ρ := ρ) (G := G) hz
  rw [x_ceO hk e6] at hw
  refine x_eqW (s2 := .ref (ρ r) :: st.map (x_rv ρ)) (by rw [List.map_cons, x_rvR]) ?_
  refine va_get (v := .long (Int64.ofInt (G r kf))) C.1 C.2.1 C.2.2.2.2.1 e3 C.2.2.2.1 C.2.2.2.2.2.1.1 hR.1 z hw e1 kf e2 (C.2.2.2.2.1 _ e4) (fun _ h => h) ((x_mi_at e5).trans (by rfl)) hd ?_
  exact kk p l e s m args below meth c D cy B L0 ρ0 Z H locs lsA ρ C hR hE hS hl (x_okA x_okL ho) hv h1 h2
theorem x_getR {idx ci kf n0 r : Nat} (q : Nat) {pc : Nat} (hd : decode (x_cc μ) pc = .ok (.getfield idx, 3)) (hf : x_fl (x_own μ) idx ci kf 2) (hk : xK r = (ci, n0)) (hr : r ∈ L) (he : G r kf = (q : Int)) (kk : X μ d mc ms Q (pc + 3) ls (vR q :: st) L G k n) : X μ d mc ms Q pc ls (vR r :: st) L G k n := by
  intro p l e s m args below meth c D cy B L0 ρ0 Z H locs lsA ρ C hR hE hS hl ho hv h1 h2
  obtain ⟨z, hz⟩ := x_mem hr
  obtain ⟨Cn, T, N, e1, e2, e3, e4, e5, e6⟩ := hf
  have hw := x_wl_at (cy := cy) (ρ := ρ) (G := G) hz
  rw [x_ceO hk e6] at hw
  have w0 : x_ok L (vR q) := fun _ => by have := hR.2.2.2.2.1 r hr kf (by rw [hk]; unfold x_isR; rw [if_pos e6, e5]; rfl); rw [he] at this; exact this
  refine x_eqW (s2 := .ref (ρ r) :: st.map (x_rv ρ)) (by rw [List.map_cons, x_rvR]) ?_
  refine va_get (v := .ref (ρ q)) C.1 C.2.1 C.2.2.2.2.1 e3 C.2.2.2.1 C.2.2.2.2.2.1.1 hR.1 z hw e1 kf e2 (C.2.2.2.2.1 _ e4) (fun _ h => h) ((x_mi_at e5).trans (by show some (x_ref ρ (G r kf)) = _; rw [he, x_refR])) hd ?_
  refine x_eqW (s2 := (vR q :: st).map (x_rv ρ)) (by rw [List.map_cons, x_rvR]) ?_
  exact kk p l e s m args below meth c D cy B L0 ρ0 Z H locs lsA ρ C hR hE hS hl (x_okA w0 ho) hv h1 h2
theorem x_getN {idx ci kf n0 r : Nat}  {pc : Nat} (hd : decode (x_cc μ) pc = .ok (.getfield idx, 3)) (hf : x_fl (x_own μ) idx ci kf 2) (hk : xK r = (ci, n0)) (hr : r ∈ L) (he : G r kf < 0) (kk : X μ d mc ms Q (pc + 3) ls (vN :: st) L G k n) : X μ d mc ms Q pc ls (vR r :: st) L G k n := by
  intro p l e s m args below meth c D cy B L0 ρ0 Z H locs lsA ρ C hR hE hS hl ho hv h1 h2
  obtain ⟨z, hz⟩ := x_mem hr
  obtain ⟨Cn, T, N, e1, e2, e3, e4, e5, e6⟩ := hf
  have hw := x_wl_at (cy := cy) (ρ := ρ) (G := G) hz
  rw [x_ceO hk e6] at hw
  refine x_eqW (s2 := .ref (ρ r) :: st.map (x_rv ρ)) (by rw [List.map_cons, x_rvR]) ?_
  refine va_get (v := .null) C.1 C.2.1 C.2.2.2.2.1 e3 C.2.2.2.1 C.2.2.2.2.2.1.1 hR.1 z hw e1 kf e2 (C.2.2.2.2.1 _ e4) (fun _ h => h) ((x_mi_at e5).trans (by show some (x_ref ρ (G r kf)) = _; unfold x_ref; rw [if_pos he])) hd ?_
  exact kk p l e s m args below meth c D cy B L0 ρ0 Z H locs lsA ρ C hR hE hS hl (x_okA (fun _ => Or.inl (by decide)) ho) hv h1 h2
theorem x_putC {idx ci kf t n0 r : Nat} {fin : Bool} {v : Nat × Int} {pc : Nat} (hd : decode (x_cc μ) pc = .ok (.putfield idx, 3)) (hf : x_fp (x_own μ) idx ci kf t fin) (hk : xK r = (ci, n0)) (hr : r ∈ L) (hfin : fin = true → x_ini μ = true) (hvv : ∀ ρ, x_rv ρ v = x_fv ρ t v.2) (hnf : ∀ (ρ : Nat → Nat) (ty : FieldType), x_tyOK t ty → narrow ty (x_rv ρ v) = x_rv ρ v ∧ fits ty (x_rv ρ v) = true) (hz2 : t = 2 → v.1 = 2) (kk : X μ d mc ms Q (pc + 3) ls st L (x_up G r kf v.2) k n) : X μ d mc ms Q pc ls (v :: vR r :: st) L G k n := by
  intro p l e s m args below meth c D cy B L0 ρ0 Z H locs lsA ρ C hR hE hS hl ho hv h1 h2
  obtain ⟨z, hz⟩ := x_mem hr
  obtain ⟨Cn, T, N, ty, e1, e2, e3, e4, e5, e6, e7, e8, e9, e10, e11⟩ := hf
  have hw := x_wl_at (cy := cy) (ρ := ρ) (G := G) hz
  rw [x_ceO hk e6] at hw
  have hset : (x_wl cy ρ L G).set z (ρ r, .inr (ci, ((xFT ci).mapIdx (fun j t => x_fv ρ t (G r j))).set kf (x_rv ρ v))) = x_wl cy ρ L (x_up G r kf v.2) := by
    refine x_wl_set hR.2.2.1 hz (fun i hi => x_up_ne hi) ?_
    rw [x_ceO hk e6]
    refine congrArg (fun l => (Sum.inr (ci, l) : va_E)) (x_mi_set e5 (fun j hj => x_up_k hj) ?_).symm
    rw [x_up_s]; exact hvv ρ
  have hnew : ∀ (H1 : Heap) (locs1 : List Loc), va_P D vwCl ((x_wl cy ρ L G).set z (ρ r, .inr (ci, ((xFT ci).mapIdx (fun j t => x_fv ρ t (G r j))).set kf (x_rv ρ v)))) H1 → va_D (x_A B) ((x_wl cy ρ L G).set z (ρ r, .inr (ci, ((xFT ci).mapIdx (fun j t => x_fv ρ t (G r j))).set kf (x_rv ρ v)))) → va_S (x_A B) s.heap H1 locs1 → W p l e (x_rm d mc ms) s m args below meth c H1 locs1 k n Z (F0 m (pc + 3) lsA (st.map (x_rv ρ))) := by
    intro H1 locs1 hP1 hD1 hS1
    rw [hset] at hP1 hD1
    refine kk p l e s m args below meth c D cy B L0 ρ0 Z H1 locs1 lsA ρ C (hR.set hP1 hD1 (Nat.le_trans C.2.2.2.2.2.2.1 hS1.1) (fun q => ?_)) hE hS1 hl (x_okt (x_okt ho)) hv h1 h2
    rw [hk] at q; unfold x_isR at q; rw [if_pos e6, e5] at q
    have ht2 : t = 2 := by simpa using q
    exact x_ok1 ho (hz2 ht2)
  refine x_eqW (s2 := x_rv ρ v :: .ref (ρ r) :: st.map (x_rv ρ)) (by rw [List.map_cons, List.map_cons, x_rvR]) ?_
  have hlen : kf < ((xFT ci).mapIdx (fun j t => x_fv ρ t (G r j))).length := by rw [List.length_mapIdx]; exact (List.getElem?_eq_some_iff.mp e5).1
  cases fin with
  | false => exact va_put C.1 C.2.1 C.2.2.2.2.1 e3 ty e7 e8 C.2.2.2.1 C.2.2.2.2.2.1.1 hR.1 hR.2.1 hS z hw e1 kf e2 (C.2.2.2.2.1 _ e4) (fun _ h => h) e9 (e7 kf e2) (hnf ρ _ e10).1 (hnf ρ _ e10).2 hlen hd hnew
  | true => exact va_putF C.1 C.2.1 C.2.2.2.2.1 e3 ty e7 e8 C.2.2.2.1 C.2.2.2.2.2.1.1 hR.1 hR.2.1 hS z hw e1 kf e2 (C.2.2.2.2.1 _ e4) (fun _ h => h) e9 (C.2.2.2.2.2.2.2.1 (hfin rfl)) (e11 rfl) (e7 kf e2) (hnf ρ _ e10).1 (hnf ρ _ e10).2 hlen hd hnew
theorem x_tyI {ty : FieldType} (h : x_tyOK 0 ty) : ty = .int := by
  rcases h with ⟨-, h⟩ | ⟨h, -⟩ | ⟨h, -⟩ | ⟨h, -⟩
  · exact h
  all_goals cases h
theorem x_tyL {ty : FieldType} (h : x_tyOK 1 ty) : ty = .long := by
  rcases h with ⟨h, -⟩ | ⟨-, h⟩ | ⟨h, -⟩ | ⟨h, -⟩
  · cases h
  · exact h
  all_goals cases h
theorem x_tyZ {ty : FieldType} (h : x_tyOK 3 ty) : ty = .boolean := by
  rcases h with ⟨h, -⟩ | ⟨h, -⟩ | ⟨-, h⟩ | ⟨h, -⟩
  · cases h
  · cases h
  · exact h
  · cases h
theorem x_tyR {ty : FieldType} (h : x_tyOK 2 ty) : (∃ n, ty = .object n) ∨ ∃ u, ty = .array u := by
  rcases h with ⟨h, -⟩ | ⟨h, -⟩ | ⟨h, -⟩ | ⟨-, h⟩
  · cases h
  · cases h
  · cases h
  · exact h
theorem x_putI {idx ci kf n0 r : Nat} {x : Int} {pc : Nat} (hd : decode (x_cc μ) pc = .ok (.putfield idx, 3)) (hf : x_fp (x_own μ) idx ci kf 0 false) (hk : xK r = (ci, n0)) (hr : r ∈ L)  (kk : X μ d mc ms Q (pc + 3) ls st L (x_up G r kf x) k n) : X μ d mc ms Q pc ls (vI x :: vR r :: st) L G k n := x_putC (v := vI x) hd hf hk hr (fun q => by cases q) (fun _ => rfl) (fun _ ty h => by rw [x_tyI h]; exact ⟨rfl, rfl⟩) (fun q => by cases q) kk
theorem x_putL {idx ci kf n0 r : Nat} {x : Int} {pc : Nat} (hd : decode (x_cc μ) pc = .ok (.putfield idx, 3)) (hf : x_fp (x_own μ) idx ci kf 1 false) (hk : xK r = (ci, n0)) (hr : r ∈ L)  (kk : X μ d mc ms Q (pc + 3) ls st L (x_up G r kf x) k n) : X μ d mc ms Q pc ls (vL x :: vR r :: st) L G k n := x_putC (v := vL x) hd hf hk hr (fun q => by cases q) (fun _ => rfl) (fun _ ty h => by rw [x_tyL h]; exact ⟨rfl, rfl⟩) (fun q => by cases q) kk
theorem x_putZ {idx ci kf n0 r : Nat} {x : Int} {pc : Nat} (hd : decode (x_cc μ) pc = .ok (.putfield idx, 3)) (hf : x_fp (x_own μ) idx ci kf 3 false) (hk : xK r = (ci, n0)) (hr : r ∈ L) (hx : x = 0 ∨ x = 1) (kk : X μ d mc ms Q (pc + 3) ls st L (x_up G r kf x) k n) : X μ d mc ms Q pc ls (vI x :: vR r :: st) L G k n := x_putC (v := vI x) hd hf hk hr (fun q => by cases q) (fun _ => rfl) (fun _ ty h => by rw [x_tyZ h]; rcases hx with rfl | rfl <;> exact ⟨rfl, rfl⟩) (fun q => by cases q) kk
theorem x_putR {idx ci kf n0 r : Nat} {q : Nat} {pc : Nat} (hd : decode (x_cc μ) pc = .ok (.putfield idx, 3)) (hf : x_fp (x_own μ) idx ci kf 2 false) (hk : xK r = (ci, n0)) (hr : r ∈ L)  (kk : X μ d mc ms Q (pc + 3) ls st L (x_up G r kf (q : Int)) k n) : X μ d mc ms Q pc ls (vR q :: vR r :: st) L G k n := x_putC (v := vR q) hd hf hk hr (fun q => by cases q) (fun _ => rfl) (fun ρ ty h => by rw [x_rvR]; rcases x_tyR h with ⟨_, rfl⟩ | ⟨_, rfl⟩ <;> exact ⟨rfl, rfl⟩) (fun _ => rfl) kk
theorem x_putN {idx ci kf n0 r : Nat}  {pc : Nat} (hd : decode (x_cc μ) pc = .ok (.putfield idx, 3)) (hf : x_fp (x_own μ) idx ci kf 2 false) (hk : xK r = (ci, n0)) (hr : r ∈ L)  (kk : X μ d mc ms Q (pc + 3) ls st L (x_up G r kf (-1)) k n) : X μ d mc ms Q pc ls (vN :: vR r :: st) L G k n := x_putC (v := vN) hd hf hk hr (fun q => by cases q) (fun _ => rfl) (fun ρ ty h => by rw [x_rvN]; rcases x_tyR h with ⟨_, rfl⟩ | ⟨_, rfl⟩ <;> exact ⟨rfl, rfl⟩) (fun _ => rfl) kk
theorem x_putFR {idx ci kf n0 r : Nat} {q : Nat} {pc : Nat} (hd : decode (x_cc μ) pc = .ok (.putfield idx, 3)) (hf : x_fp (x_own μ) idx ci kf 2 true) (hk : xK r = (ci, n0)) (hr : r ∈ L) (hini : x_ini μ = true) (kk : X μ d mc ms Q (pc + 3) ls st L (x_up G r kf (q : Int)) k n) : X μ d mc ms Q pc ls (vR q :: vR r :: st) L G k n := x_putC (v := vR q) hd hf hk hr (fun _ => hini) (fun _ => rfl) (fun ρ ty h => by rw [x_rvR]; rcases x_tyR h with ⟨_, rfl⟩ | ⟨_, rfl⟩ <;> exact ⟨rfl, rfl⟩) (fun _ => rfl) kk
theorem x_iald {N r : Nat} (j : Nat) {a : Int} {pc : Nat} (hd : decode (x_cc μ) pc = .ok (.iaload, 1)) (hk : xK r = (13, N)) (hr : r ∈ L) (hj : a = (j : Int) ∧ j < N ∧ N < 2147483648) (kk : X μ d mc ms Q (pc + 1) ls (vI (G r j) :: st) L G k n) : X μ d mc ms Q pc ls (vI a :: vR r :: st) L G k n := by
  intro p l e s m args below meth c D cy B L0 ρ0 Z H locs lsA ρ C hR hE hS hl ho hv h1 h2
  obtain ⟨z, hz⟩ := x_mem hr
  have hw := x_wl_at (cy := cy) (ρ := ρ) (G := G) hz
  rw [x_ceI hk] at hw
  obtain ⟨hj, hb, hN⟩ := hj
  subst hj
  have hin : vp_in (Int32.ofInt (j : Int)) N := z_vpin (by omega) (by omega) hN
  have hcl : (Int32.ofInt (j : Int)).toNatClampNeg = j := by rw [z_clamp (by omega) (by omega), Int.toNat_natCast]
  refine x_eqW (s2 := .int (Int32.ofInt (j : Int)) :: .ref (ρ r) :: st.map (x_rv ρ)) (by rw [List.map_cons, List.map_cons, x_rvR, x_rvI]) ?_
  refine va_iald C.1 C.2.1 C.2.2.2.2.2.1.1 hR.1 z 0 hw rfl hin hd ?_
  rw [hcl]
  exact kk p l e s m args below meth c D cy B L0 ρ0 Z H locs lsA ρ C hR hE hS hl (x_okc x_okI (x_okt (x_okt ho))) hv h1 h2
theorem x_lald {N r : Nat} (j : Nat) {a : Int} {pc : Nat} (hd : decode (x_cc μ) pc = .ok (.laload, 1)) (hk : xK r = (14, N)) (hr : r ∈ L) (hj : a = (j : Int) ∧ j < N ∧ N < 2147483648) (kk : X μ d mc ms Q (pc + 1) ls (vL (G r j) :: st) L G k n) : X μ d mc ms Q pc ls (vI a :: vR r :: st) L G k n := by
  intro p l e s m args below meth c D cy B L0 ρ0 Z H locs lsA ρ C hR hE hS hl ho hv h1 h2
  obtain ⟨z, hz⟩ := x_mem hr
  have hw := x_wl_at (cy := cy) (ρ := ρ) (G := G) hz
  rw [x_ceJ hk] at hw
  obtain ⟨hj, hb, hN⟩ := hj
  subst hj
  have hin : vp_in (Int32.ofInt (j : Int)) N := z_vpin (by omega) (by omega) hN
  have hcl : (Int32.ofInt (j : Int)).toNatClampNeg = j := by rw [z_clamp (by omega) (by omega), Int.toNat_natCast]
  refine x_eqW (s2 := .int (Int32.ofInt (j : Int)) :: .ref (ρ r) :: st.map (x_rv ρ)) (by rw [List.map_cons, List.map_cons, x_rvR, x_rvI]) ?_
  refine va_lald C.1 C.2.1 C.2.2.2.2.2.1.1 hR.1 z 1 hw rfl hin hd ?_
  rw [hcl]
  exact kk p l e s m args below meth c D cy B L0 ρ0 Z H locs lsA ρ C hR hE hS hl (x_okc x_okL (x_okt (x_okt ho))) hv h1 h2
theorem x_zald {N r : Nat} (j : Nat) {a : Int} {pc : Nat} (hd : decode (x_cc μ) pc = .ok (.baload, 1)) (hk : xK r = (15, N)) (hr : r ∈ L) (hj : a = (j : Int) ∧ j < N ∧ N < 2147483648) (kk : X μ d mc ms Q (pc + 1) ls (vI (G r j) :: st) L G k n) : X μ d mc ms Q pc ls (vI a :: vR r :: st) L G k n := by
  intro p l e s m args below meth c D cy B L0 ρ0 Z H locs lsA ρ C hR hE hS hl ho hv h1 h2
  obtain ⟨z, hz⟩ := x_mem hr
  have hw := x_wl_at (cy := cy) (ρ := ρ) (G := G) hz
  rw [x_ceZ hk] at hw
  obtain ⟨hj, hb, hN⟩ := hj
  subst hj
  have hin : vp_in (Int32.ofInt (j : Int)) N := z_vpin (by omega) (by omega) hN
  have hcl : (Int32.ofInt (j : Int)).toNatClampNeg = j := by rw [z_clamp (by omega) (by omega), Int.toNat_natCast]
  refine x_eqW (s2 := .int (Int32.ofInt (j : Int)) :: .ref (ρ r) :: st.map (x_rv ρ)) (by rw [List.map_cons, List.map_cons, x_rvR, x_rvI]) ?_
  refine va_zald C.1 C.2.1 C.2.2.2.2.2.1.1 hR.1 z 2 hw rfl hin hd ?_
  rw [hcl]
  exact kk p l e s m args below meth c D cy B L0 ρ0 Z H locs lsA ρ C hR hE hS hl (x_okc x_okI (x_okt (x_okt ho))) hv h1 h2
theorem x_aald {t N r : Nat} (q : Nat) (j : Nat) {a : Int} {pc : Nat} (hd : decode (x_cc μ) pc = .ok (.aaload, 1)) (hk : xK r = (t, N)) (ht : t = 16 ∨ t = 17 ∨ t = 18) (hr : r ∈ L) (hj : a = (j : Int) ∧ j < N ∧ N < 2147483648) (he : G r j = (q : Int)) (kk : X μ d mc ms Q (pc + 1) ls (vR q :: st) L G k n) : X μ d mc ms Q pc ls (vI a :: vR r :: st) L G k n := by
  intro p l e s m args below meth c D cy B L0 ρ0 Z H locs lsA ρ C hR hE hS hl ho hv h1 h2
  obtain ⟨z, hz⟩ := x_mem hr
  have hw := x_wl_at (cy := cy) (ρ := ρ) (G := G) hz
  have ht16 : 16 ≤ t := by omega
  rw [x_ceR hk ht16] at hw
  obtain ⟨hj, hb, hN⟩ := hj
  subst hj
  have hin : vp_in (Int32.ofInt (j : Int)) N := z_vpin (by omega) (by omega) hN
  have hcl : (Int32.ofInt (j : Int)).toNatClampNeg = j := by rw [z_clamp (by omega) (by omega), Int.toNat_natCast]
  have w0 : x_ok L (vR q) := fun _ => by
    have := hR.2.2.2.2.1 r hr j (by rw [hk]; unfold x_isR; rw [if_neg (by show ¬ t ≤ 12; omega)]; exact decide_eq_true ht16)
    rw [he] at this; exact this
  refine x_eqW (s2 := .int (Int32.ofInt (j : Int)) :: .ref (ρ r) :: st.map (x_rv ρ)) (by rw [List.map_cons, List.map_cons, x_rvR, x_rvI]) ?_
  have hval : va_rf ((fun j => if G r j < 0 then none else some (ρ (G r j).toNat)) j) = .ref (ρ q) := by
    show va_rf (if G r j < 0 then none else some (ρ (G r j).toNat)) = _
    rw [he, if_neg (by omega), Int.toNat_natCast]; rfl
  have hlt : (Int32.ofInt (j : Int)).toNatClampNeg < N := by rw [hcl]; exact hb
  have arr : ∀ ty : FieldType, (x_tys cy)[t - 13]? = some (cy t, ty) → ty.isReference = true → W p l e (x_rm d mc ms) s m args below meth c H locs k n Z (F0 m pc lsA (.int (Int32.ofInt (j : Int)) :: .ref (ρ r) :: st.map (x_rv ρ))) := by
    intro ty hty hre
    refine W.aald (v := .ref (ρ q)) (ty := ty) C.1 C.2.1 (hR.1 z _ hw) ((C.2.2.2.2.2.1.1.2 _ _ hty).1 N (fun j => va_rf (if G r j < 0 then none else some (ρ (G r j).toNat)))) hre (fun q => by cases q) (by show ¬ (_ < 0 ∨ (arrV _ _ _).slots.size ≤ _); rw [arrV_size]; exact hin) (by show (arrV _ _ _).slots[_]? = _; rw [arrV_read _ _ hlt, hcl]; exact congrArg some hval) rfl rfl hd ?_
    refine x_eqW (s2 := (vR q :: st).map (x_rv ρ)) (by rw [List.map_cons, x_rvR]) ?_
    exact kk p l e s m args below meth c D cy B L0 ρ0 Z H locs lsA ρ C hR hE hS hl (x_okc w0 (x_okt (x_okt ho))) hv h1 h2
  rcases ht with rfl | rfl | rfl
  · exact arr (.object "TwoSides$Side") rfl rfl
  · exact arr (.object "TwoSides$Word") rfl rfl
  · exact arr (.array .int) rfl rfl
theorem x_iast {N r : Nat} (j : Nat) {a : Int} {x : Int} {pc : Nat} (hd : decode (x_cc μ) pc = .ok (.iastore, 1)) (hk : xK r = (13, N)) (hr : r ∈ L) (hj : a = (j : Int) ∧ j < N ∧ N < 2147483648)  (kk : X μ d mc ms Q (pc + 1) ls st L (x_up G r j x) k n) : X μ d mc ms Q pc ls (vI x :: vI a :: vR r :: st) L G k n := by
  intro p l e s m args below meth c D cy B L0 ρ0 Z H locs lsA ρ C hR hE hS hl ho hv h1 h2
  obtain ⟨z, hz⟩ := x_mem hr
  have hw := x_wl_at (cy := cy) (ρ := ρ) (G := G) hz
  rw [x_ceI hk] at hw
  obtain ⟨hj, hb, hN⟩ := hj
  subst hj
  have hin : vp_in (Int32.ofInt (j : Int)) N := z_vpin (by omega) (by omega) hN
  have hcl : (Int32.ofInt (j : Int)).toNatClampNeg = j := by rw [z_clamp (by omega) (by omega), Int.toNat_natCast]
  refine x_eqW (s2 := .int (Int32.ofInt x) :: .int (Int32.ofInt (j : Int)) :: .ref (ρ r) :: st.map (x_rv ρ)) (by rw [List.map_cons, List.map_cons, List.map_cons, x_rvR, x_rvI, x_rvI]) ?_
  refine va_iast C.1 C.2.1 C.2.2.2.2.2.1.1 hR.1 hR.2.1 hS z 0 hw rfl hin hd (fun H1 locs1 hP1 hD1 hS1 => ?_)
  rw [hcl] at hP1 hD1
  have hset : (x_wl cy ρ L G).set z (ρ r, .inl (cy 13, N, .inl (upd (fun j => Int32.ofInt (G r j)) j (Int32.ofInt x)))) = x_wl cy ρ L (x_up G r j x) := by
    refine x_wl_set hR.2.2.1 hz (fun i hi => x_up_ne hi) ?_
    rw [x_ceI hk]
    refine congrArg (fun f => (.inl (cy 13, N, .inl f) : va_E)) (funext fun q => ?_)
    unfold upd x_up
    by_cases hq : q = j
    · rw [if_pos ⟨rfl, hq⟩, if_pos hq]
    · rw [if_neg (fun h => hq h.2), if_neg hq]
  rw [hset] at hP1 hD1
  exact kk p l e s m args below meth c D cy B L0 ρ0 Z H1 locs1 lsA ρ C (hR.set hP1 hD1 (Nat.le_trans C.2.2.2.2.2.2.1 hS1.1) (fun q => by rw [hk] at q; cases q)) hE hS1 hl (x_okt (x_okt (x_okt ho))) hv h1 h2
theorem x_last {N r : Nat} (j : Nat) {a : Int} {x : Int} {pc : Nat} (hd : decode (x_cc μ) pc = .ok (.lastore, 1)) (hk : xK r = (14, N)) (hr : r ∈ L) (hj : a = (j : Int) ∧ j < N ∧ N < 2147483648)  (kk : X μ d mc ms Q (pc + 1) ls st L (x_up G r j x) k n) : X μ d mc ms Q pc ls (vL x :: vI a :: vR r :: st) L G k n := by
  intro p l e s m args below meth c D cy B L0 ρ0 Z H locs lsA ρ C hR hE hS hl ho hv h1 h2
  obtain ⟨z, hz⟩ := x_mem hr
  have hw := x_wl_at (cy := cy) (ρ := ρ) (G := G) hz
  rw [x_ceJ hk] at hw
  obtain ⟨hj, hb, hN⟩ := hj
  subst hj
  have hin : vp_in (Int32.ofInt (j : Int)) N := z_vpin (by omega) (by omega) hN
  have hcl : (Int32.ofInt (j : Int)).toNatClampNeg = j := by rw [z_clamp (by omega) (by omega), Int.toNat_natCast]
  refine x_eqW (s2 := .long (Int64.ofInt x) :: .int (Int32.ofInt (j : Int)) :: .ref (ρ r) :: st.map (x_rv ρ)) (by rw [List.map_cons, List.map_cons, List.map_cons, x_rvR, x_rvI, x_rvL]) ?_
  refine va_last C.1 C.2.1 C.2.2.2.2.2.1.1 hR.1 hR.2.1 hS z 1 hw rfl hin hd (fun H1 locs1 hP1 hD1 hS1 => ?_)
  rw [hcl] at hP1 hD1
  have hset : (x_wl cy ρ L G).set z (ρ r, .inl (cy 14, N, .inr (.inl (vp_updL (fun j => Int64.ofInt (G r j)) j (Int64.ofInt x))))) = x_wl cy ρ L (x_up G r j x) := by
    refine x_wl_set hR.2.2.1 hz (fun i hi => x_up_ne hi) ?_
    rw [x_ceJ hk]
    refine congrArg (fun f => (.inl (cy 14, N, .inr (.inl f)) : va_E)) (funext fun q => ?_)
    unfold vp_updL x_up
    by_cases hq : q = j
    · rw [if_pos ⟨rfl, hq⟩, if_pos hq]
    · rw [if_neg (fun h => hq h.2), if_neg hq]
  rw [hset] at hP1 hD1
  exact kk p l e s m args below meth c D cy B L0 ρ0 Z H1 locs1 lsA ρ C (hR.set hP1 hD1 (Nat.le_trans C.2.2.2.2.2.2.1 hS1.1) (fun q => by rw [hk] at q; cases q)) hE hS1 hl (x_okt (x_okt (x_okt ho))) hv h1 h2
theorem x_zast {N r : Nat} (j : Nat) {a : Int} {x : Int} {pc : Nat} (hd : decode (x_cc μ) pc = .ok (.bastore, 1)) (hk : xK r = (15, N)) (hr : r ∈ L) (hj : a = (j : Int) ∧ j < N ∧ N < 2147483648) (hx : x = 0 ∨ x = 1) (kk : X μ d mc ms Q (pc + 1) ls st L (x_up G r j x) k n) : X μ d mc ms Q pc ls (vI x :: vI a :: vR r :: st) L G k n := by
  intro p l e s m args below meth c D cy B L0 ρ0 Z H locs lsA ρ C hR hE hS hl ho hv h1 h2
  obtain ⟨z, hz⟩ := x_mem hr
  have hw := x_wl_at (cy := cy) (ρ := ρ) (G := G) hz
  rw [x_ceZ hk] at hw
  obtain ⟨hj, hb, hN⟩ := hj
  subst hj
  have hin : vp_in (Int32.ofInt (j : Int)) N := z_vpin (by omega) (by omega) hN
  have hcl : (Int32.ofInt (j : Int)).toNatClampNeg = j := by rw [z_clamp (by omega) (by omega), Int.toNat_natCast]
  refine x_eqW (s2 := .int (Int32.ofInt x) :: .int (Int32.ofInt (j : Int)) :: .ref (ρ r) :: st.map (x_rv ρ)) (by rw [List.map_cons, List.map_cons, List.map_cons, x_rvR, x_rvI, x_rvI]) ?_
  have hnar : vp_nar .boolean (Int32.ofInt x) = Int32.ofInt x := by rcases hx with rfl | rfl <;> rfl
  refine va_zast C.1 C.2.1 C.2.2.2.2.2.1.1 hR.1 hR.2.1 hS z 2 hw rfl hin hd (fun H1 locs1 hP1 hD1 hS1 => ?_)
  rw [hcl, hnar] at hP1 hD1
  have hset : (x_wl cy ρ L G).set z (ρ r, .inl (cy 15, N, .inl (upd (fun j => Int32.ofInt (G r j)) j (Int32.ofInt x)))) = x_wl cy ρ L (x_up G r j x) := by
    refine x_wl_set hR.2.2.1 hz (fun i hi => x_up_ne hi) ?_
    rw [x_ceZ hk]
    refine congrArg (fun f => (.inl (cy 15, N, .inl f) : va_E)) (funext fun q => ?_)
    unfold upd x_up
    by_cases hq : q = j
    · rw [if_pos ⟨rfl, hq⟩, if_pos hq]
    · rw [if_neg (fun h => hq h.2), if_neg hq]
  rw [hset] at hP1 hD1
  exact kk p l e s m args below meth c D cy B L0 ρ0 Z H1 locs1 lsA ρ C (hR.set hP1 hD1 (Nat.le_trans C.2.2.2.2.2.2.1 hS1.1) (fun q => by rw [hk] at q; cases q)) hE hS1 hl (x_okt (x_okt (x_okt ho))) hv h1 h2
theorem x_alen {t N r : Nat} {pc : Nat} (hd : decode (x_cc μ) pc = .ok (.arraylength, 1)) (hk : xK r = (t, N)) (ht : 13 ≤ t ∧ t ≤ 18) (hr : r ∈ L) (kk : X μ d mc ms Q (pc + 1) ls (vI (N : Int) :: st) L G k n) : X μ d mc ms Q pc ls (vR r :: st) L G k n := by
  intro p l e s m args below meth c D cy B L0 ρ0 Z H locs lsA ρ C hR hE hS hl ho hv h1 h2
  obtain ⟨z, hz⟩ := x_mem hr
  have hw := x_wl_at (cy := cy) (ρ := ρ) (G := G) hz
  refine x_eqW (s2 := .ref (ρ r) :: st.map (x_rv ρ)) (by rw [List.map_cons, x_rvR]) ?_
  have fin := kk p l e s m args below meth c D cy B L0 ρ0 Z H locs lsA ρ C hR hE hS hl (x_okc x_okI (x_okt ho)) hv h1 h2
  rcases (show t = 13 ∨ t = 14 ∨ t = 15 ∨ t = 16 ∨ t = 17 ∨ t = 18 by omega) with rfl | rfl | rfl | rfl | rfl | rfl
  · rw [x_ceI hk] at hw; exact va_alen C.1 C.2.1 C.2.2.2.2.2.1.1 hR.1 z 0 hw (ty := .int) rfl Int32.ofInt_eq_ofNat.symm hd fin
  · rw [x_ceJ hk] at hw; exact va_alen C.1 C.2.1 C.2.2.2.2.2.1.1 hR.1 z 1 hw (ty := .long) rfl Int32.ofInt_eq_ofNat.symm hd fin
  · rw [x_ceZ hk] at hw; exact va_alen C.1 C.2.1 C.2.2.2.2.2.1.1 hR.1 z 2 hw (ty := .boolean) rfl Int32.ofInt_eq_ofNat.symm hd fin
  · rw [x_ceR hk (by decide)] at hw; exact va_alen C.1 C.2.1 C.2.2.2.2.2.1.1 hR.1 z 3 hw (ty := .object "TwoSides$Side") rfl Int32.ofInt_eq_ofNat.symm hd fin
  · rw [x_ceR hk (by decide)] at hw; exact va_alen C.1 C.2.1 C.2.2.2.2.2.1.1 hR.1 z 4 hw (ty := .object "TwoSides$Word") rfl Int32.ofInt_eq_ofNat.symm hd fin
  · rw [x_ceR hk (by decide)] at hw; exact va_alen C.1 C.2.1 C.2.2.2.2.2.1.1 hR.1 z 5 hw (ty := .array .int) rfl Int32.ofInt_eq_ofNat.symm hd fin
end XR3
