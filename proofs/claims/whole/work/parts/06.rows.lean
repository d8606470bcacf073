/-! ROWS: an instruction, a row, over the judgement X -/
section XR
variable {μ : x_M} {d mc ms : Nat} {Q : x_Q} {pc : Nat} {ls : List (Option (Nat × Int))} {st : List (Nat × Int)} {L : List Nat} {G : Nat → Nat → Int} {k n : Nat}
theorem x_ok1 {v : Nat × Int} {st : List (Nat × Int)} (h : x_okS L (v :: st)) : x_ok L v := h v List.mem_cons_self
theorem x_okt {v : Nat × Int} {st : List (Nat × Int)} (h : x_okS L (v :: st)) : x_okS L st := fun w hw => h w (List.mem_cons_of_mem _ hw)
theorem x_okc {v : Nat × Int} {st : List (Nat × Int)} (h1 : x_ok L v) (h : x_okS L st) : x_okS L (v :: st) := fun w hw => (List.mem_cons.mp hw).elim (fun e => e ▸ h1) (h w)
theorem x_okI {x : Int} : x_ok L (vI x) := fun h => by cases h
theorem x_okL {x : Int} : x_ok L (vL x) := fun h => by cases h
theorem x_okR {q : Nat} (h : q ∈ L) : x_ok L (vR q) := fun _ => Or.inr (Or.inr (by rw [Int.toNat_natCast]; exact h))
theorem x_okA {u v : Nat × Int} {st : List (Nat × Int)} (hu : x_ok L u) (h : x_okS L (v :: st)) : x_okS L (u :: st) := x_okc hu (x_okt h)
theorem x_eqW {p : Program} {l : Launch} {e : Env} {R : Room} {s : State} {m : MethodId} {args : Array Value} {below : List Frame} {meth : Method} {c : Code} {H : Heap} {locs : List Loc} {cells slots : Nat} {Z : State → Prop} {lsA : Array Slot} {pc : Nat} {s1 s2 : List Value} (h : s1 = s2) (w : W p l e R s m args below meth c H locs cells slots Z (F0 m pc lsA s2)) : W p l e R s m args below meth c H locs cells slots Z (F0 m pc lsA s1) := h ▸ w
theorem x_ldv {ρ : Nat → Nat} {nL i : Nat} {v : Nat × Int} {lsA : Array Slot} (hl : lv_has lsA nL (x_lv ρ 0 ls)) (hg : ls[i]? = some (some v)) : lsA[i]? = some (.val (x_rv ρ v)) := by
  have h := hl.2.2 (0 + i, x_rv ρ v) ((x_lv_mem ρ ls 0 _).mpr ⟨i, v, hg, rfl⟩)
  rw [Nat.zero_add] at h
  exact h
theorem x_iconst {x : Int} {pc : Nat} (hd : decode (x_cc μ) pc = .ok (.iconst x, 1))  (kk : X μ d mc ms Q (pc + 1) ls (vI x :: st) L G k n) : X μ d mc ms Q pc ls st L G k n := by
  intro p l e s m args below meth c D cy B L0 ρ0 Z H locs lsA ρ C hR hE hS hl ho hv h1 h2
  refine lv_iconst C.1 C.2.1 hd rfl ?_
  exact kk p l e s m args below meth c D cy B L0 ρ0 Z H locs lsA ρ C hR hE hS hl (x_okc x_okI ho) hv h1 h2
theorem x_bipush {x : Int} {pc : Nat} (hd : decode (x_cc μ) pc = .ok (.bipush x, 2)) (hx : (Int8.ofInt x).toInt32 = Int32.ofInt x) (kk : X μ d mc ms Q (pc + 2) ls (vI x :: st) L G k n) : X μ d mc ms Q pc ls st L G k n := by
  intro p l e s m args below meth c D cy B L0 ρ0 Z H locs lsA ρ C hR hE hS hl ho hv h1 h2
  refine lv_bipush C.1 C.2.1 hd hx ?_
  exact kk p l e s m args below meth c D cy B L0 ρ0 Z H locs lsA ρ C hR hE hS hl (x_okc x_okI ho) hv h1 h2
theorem x_sipush {x : Int} {pc : Nat} (hd : decode (x_cc μ) pc = .ok (.sipush x, 3)) (hx : (Int16.ofInt x).toInt32 = Int32.ofInt x) (kk : X μ d mc ms Q (pc + 3) ls (vI x :: st) L G k n) : X μ d mc ms Q pc ls st L G k n := by
  intro p l e s m args below meth c D cy B L0 ρ0 Z H locs lsA ρ C hR hE hS hl ho hv h1 h2
  refine lv_sipush C.1 C.2.1 hd hx ?_
  exact kk p l e s m args below meth c D cy B L0 ρ0 Z H locs lsA ρ C hR hE hS hl (x_okc x_okI ho) hv h1 h2
theorem x_ldc {i : Nat} {x : Int} {pc : Nat} (hd : decode (x_cc μ) pc = .ok (.ldc i, 2)) (hx : Cond.constant (x_own μ) i (Int32.ofInt x) ∈ x_tb) (kk : X μ d mc ms Q (pc + 2) ls (vI x :: st) L G k n) : X μ d mc ms Q pc ls st L G k n := by
  intro p l e s m args below meth c D cy B L0 ρ0 Z H locs lsA ρ C hR hE hS hl ho hv h1 h2
  refine lv_ldc C.1 C.2.1 C.2.2.2.1 (C.2.2.2.2.1 _ hx) hd ?_
  exact kk p l e s m args below meth c D cy B L0 ρ0 Z H locs lsA ρ C hR hE hS hl (x_okc x_okI ho) hv h1 h2
theorem x_ldcw {i : Nat} {x : Int} {pc : Nat} (hd : decode (x_cc μ) pc = .ok (.ldc_w i, 3)) (hx : Cond.constant (x_own μ) i (Int32.ofInt x) ∈ x_tb) (kk : X μ d mc ms Q (pc + 3) ls (vI x :: st) L G k n) : X μ d mc ms Q pc ls st L G k n := by
  intro p l e s m args below meth c D cy B L0 ρ0 Z H locs lsA ρ C hR hE hS hl ho hv h1 h2
  refine lv_ldcw C.1 C.2.1 C.2.2.2.1 (C.2.2.2.2.1 _ hx) hd ?_
  exact kk p l e s m args below meth c D cy B L0 ρ0 Z H locs lsA ρ C hR hE hS hl (x_okc x_okI ho) hv h1 h2
theorem x_ldc2 {i : Nat} {x : Int} {pc : Nat} (hd : decode (x_cc μ) pc = .ok (.ldc2_w i, 3)) (hx : Cond.constantLong (x_own μ) i (Int64.ofInt x) ∈ x_tb) (kk : X μ d mc ms Q (pc + 3) ls (vL x :: st) L G k n) : X μ d mc ms Q pc ls st L G k n := by
  intro p l e s m args below meth c D cy B L0 ρ0 Z H locs lsA ρ C hR hE hS hl ho hv h1 h2
  refine lv_ldc2 C.1 C.2.1 C.2.2.2.1 (C.2.2.2.2.1 _ hx) hd ?_
  exact kk p l e s m args below meth c D cy B L0 ρ0 Z H locs lsA ρ C hR hE hS hl (x_okc x_okL ho) hv h1 h2
theorem x_lconst {i : Fin 2} {x : Int} {pc : Nat} (hd : decode (x_cc μ) pc = .ok (.lconst i, 1)) (hx : Int64.ofNat (i : Nat) = Int64.ofInt x) (kk : X μ d mc ms Q (pc + 1) ls (vL x :: st) L G k n) : X μ d mc ms Q pc ls st L G k n := by
  intro p l e s m args below meth c D cy B L0 ρ0 Z H locs lsA ρ C hR hE hS hl ho hv h1 h2
  refine lv_lconst C.1 C.2.1 hd hx ?_
  exact kk p l e s m args below meth c D cy B L0 ρ0 Z H locs lsA ρ C hR hE hS hl (x_okc x_okL ho) hv h1 h2
theorem x_null  {pc : Nat} (hd : decode (x_cc μ) pc = .ok (.aconst_null, 1))  (kk : X μ d mc ms Q (pc + 1) ls (vN :: st) L G k n) : X μ d mc ms Q pc ls st L G k n := by
  intro p l e s m args below meth c D cy B L0 ρ0 Z H locs lsA ρ C hR hE hS hl ho hv h1 h2
  refine lv_null C.1 C.2.1 hd ?_
  exact kk p l e s m args below meth c D cy B L0 ρ0 Z H locs lsA ρ C hR hE hS hl (x_okc (fun _ => Or.inl (by decide)) ho) hv h1 h2
theorem x_pop {v : Nat × Int} {pc : Nat} (hd : decode (x_cc μ) pc = .ok (.pop, 1)) (hv1 : ¬ v.1 = 1) (kk : X μ d mc ms Q (pc + 1) ls st L G k n) : X μ d mc ms Q pc ls (v :: st) L G k n := by
  intro p l e s m args below meth c D cy B L0 ρ0 Z H locs lsA ρ C hR hE hS hl ho hv h1 h2
  refine lv_pop C.1 C.2.1 hd (by rw [x_cat, if_neg hv1]) ?_
  exact kk p l e s m args below meth c D cy B L0 ρ0 Z H locs lsA ρ C hR hE hS hl (x_okt ho) hv h1 h2
theorem x_dup {v : Nat × Int} {pc : Nat} (hd : decode (x_cc μ) pc = .ok (.dup, 1)) (hv1 : ¬ v.1 = 1) (kk : X μ d mc ms Q (pc + 1) ls (v :: v :: st) L G k n) : X μ d mc ms Q pc ls (v :: st) L G k n := by
  intro p l e s m args below meth c D cy B L0 ρ0 Z H locs lsA ρ C hR hE hS hl ho hv h1 h2
  refine lv_dup C.1 C.2.1 hd (by rw [x_cat, if_neg hv1]) ?_
  exact kk p l e s m args below meth c D cy B L0 ρ0 Z H locs lsA ρ C hR hE hS hl (x_okc (x_ok1 ho) ho) hv h1 h2
theorem x_dup2 {v w : Nat × Int} {pc : Nat} (hd : decode (x_cc μ) pc = .ok (.dup2, 1)) (hv1 : ¬ v.1 = 1) (hw1 : ¬ w.1 = 1) (kk : X μ d mc ms Q (pc + 1) ls (v :: w :: v :: w :: st) L G k n) : X μ d mc ms Q pc ls (v :: w :: st) L G k n := by
  intro p l e s m args below meth c D cy B L0 ρ0 Z H locs lsA ρ C hR hE hS hl ho hv h1 h2
  refine lv_dup2_11 C.1 C.2.1 hd (by rw [x_cat, if_neg hv1]) (by rw [x_cat, if_neg hw1]) ?_
  exact kk p l e s m args below meth c D cy B L0 ρ0 Z H locs lsA ρ C hR hE hS hl (x_okc (x_ok1 ho) (x_okc (x_ok1 (x_okt ho)) ho)) hv h1 h2
theorem x_dup2L {x : Int} {pc : Nat} (hd : decode (x_cc μ) pc = .ok (.dup2, 1))  (kk : X μ d mc ms Q (pc + 1) ls (vL x :: vL x :: st) L G k n) : X μ d mc ms Q pc ls (vL x :: st) L G k n := by
  intro p l e s m args below meth c D cy B L0 ρ0 Z H locs lsA ρ C hR hE hS hl ho hv h1 h2
  refine lv_dup2_2 C.1 C.2.1 hd (by rw [x_cat, if_pos rfl]) ?_
  exact kk p l e s m args below meth c D cy B L0 ρ0 Z H locs lsA ρ C hR hE hS hl (x_okc x_okL ho) hv h1 h2
theorem x_iload {i : Nat} {x : Int} {pc : Nat} (hd : decode (x_cc μ) pc = .ok (.iload i, 2)) (hg : ls[i]? = some (some (vI x))) (kk : X μ d mc ms Q (pc + 2) ls (vI x :: st) L G k n) : X μ d mc ms Q pc ls st L G k n := by
  intro p l e s m args below meth c D cy B L0 ρ0 Z H locs lsA ρ C hR hE hS hl ho hv h1 h2
  have hq : lsA[i]? = some (.val (x_rv ρ (vI x))) := x_ldv hl hg
  refine lv_iload C.1 C.2.1 hd hq ?_
  exact kk p l e s m args below meth c D cy B L0 ρ0 Z H locs lsA ρ C hR hE hS hl (x_okc (hv _ (List.mem_of_getElem? hg)) ho) hv h1 h2
theorem x_lload {i : Nat} {x : Int} {pc : Nat} (hd : decode (x_cc μ) pc = .ok (.lload i, 2)) (hg : ls[i]? = some (some (vL x))) (kk : X μ d mc ms Q (pc + 2) ls (vL x :: st) L G k n) : X μ d mc ms Q pc ls st L G k n := by
  intro p l e s m args below meth c D cy B L0 ρ0 Z H locs lsA ρ C hR hE hS hl ho hv h1 h2
  have hq : lsA[i]? = some (.val (x_rv ρ (vL x))) := x_ldv hl hg
  refine lv_lload C.1 C.2.1 hd hq ?_
  exact kk p l e s m args below meth c D cy B L0 ρ0 Z H locs lsA ρ C hR hE hS hl (x_okc (hv _ (List.mem_of_getElem? hg)) ho) hv h1 h2
theorem x_iloadn {i : Fin 4} {x : Int} {pc : Nat} (hd : decode (x_cc μ) pc = .ok (.iload_n i, 1)) (hg : ls[(i : Nat)]? = some (some (vI x))) (kk : X μ d mc ms Q (pc + 1) ls (vI x :: st) L G k n) : X μ d mc ms Q pc ls st L G k n := by
  intro p l e s m args below meth c D cy B L0 ρ0 Z H locs lsA ρ C hR hE hS hl ho hv h1 h2
  have hq : lsA[(i : Nat)]? = some (.val (x_rv ρ (vI x))) := x_ldv hl hg
  refine lv_iload_n C.1 C.2.1 hd rfl hq ?_
  exact kk p l e s m args below meth c D cy B L0 ρ0 Z H locs lsA ρ C hR hE hS hl (x_okc (hv _ (List.mem_of_getElem? hg)) ho) hv h1 h2
theorem x_lloadn {i : Fin 4} {x : Int} {pc : Nat} (hd : decode (x_cc μ) pc = .ok (.lload_n i, 1)) (hg : ls[(i : Nat)]? = some (some (vL x))) (kk : X μ d mc ms Q (pc + 1) ls (vL x :: st) L G k n) : X μ d mc ms Q pc ls st L G k n := by
  intro p l e s m args below meth c D cy B L0 ρ0 Z H locs lsA ρ C hR hE hS hl ho hv h1 h2
  have hq : lsA[(i : Nat)]? = some (.val (x_rv ρ (vL x))) := x_ldv hl hg
  refine lv_lload_n C.1 C.2.1 hd rfl hq ?_
  exact kk p l e s m args below meth c D cy B L0 ρ0 Z H locs lsA ρ C hR hE hS hl (x_okc (hv _ (List.mem_of_getElem? hg)) ho) hv h1 h2
theorem x_aloadn {i : Fin 4} {x : Nat} {pc : Nat} (hd : decode (x_cc μ) pc = .ok (.aload_n i, 1)) (hg : ls[(i : Nat)]? = some (some (vR x))) (kk : X μ d mc ms Q (pc + 1) ls (vR x :: st) L G k n) : X μ d mc ms Q pc ls st L G k n := by
  intro p l e s m args below meth c D cy B L0 ρ0 Z H locs lsA ρ C hR hE hS hl ho hv h1 h2
  have hq : lsA[(i : Nat)]? = some (.val (x_rv ρ (vR x))) := x_ldv hl hg
  rw [x_rvR] at hq
  refine lv_aload_n C.1 C.2.1 hd rfl hq ?_
  refine x_eqW (s2 := (vR x :: st).map (x_rv ρ)) (by rw [List.map_cons, x_rvR]) ?_
  exact kk p l e s m args below meth c D cy B L0 ρ0 Z H locs lsA ρ C hR hE hS hl (x_okc (hv _ (List.mem_of_getElem? hg)) ho) hv h1 h2
theorem x_aload {i : Nat} {x : Nat} {pc : Nat} (hd : decode (x_cc μ) pc = .ok (.aload i, 2)) (hg : ls[i]? = some (some (vR x))) (kk : X μ d mc ms Q (pc + 2) ls (vR x :: st) L G k n) : X μ d mc ms Q pc ls st L G k n := by
  intro p l e s m args below meth c D cy B L0 ρ0 Z H locs lsA ρ C hR hE hS hl ho hv h1 h2
  have hq : lsA[i]? = some (.val (x_rv ρ (vR x))) := x_ldv hl hg
  rw [x_rvR] at hq
  refine lv_aload C.1 C.2.1 hd hq ?_
  refine x_eqW (s2 := (vR x :: st).map (x_rv ρ)) (by rw [List.map_cons, x_rvR]) ?_
  exact kk p l e s m args below meth c D cy B L0 ρ0 Z H locs lsA ρ C hR hE hS hl (x_okc (hv _ (List.mem_of_getElem? hg)) ho) hv h1 h2
def x_kl : Nat → List (Option (Nat × Int)) → List (Option (Nat × Int))
  | 0, ls => ls
  | j + 1, ls => match ls[j]? with
    | some (some (1, _)) => ls.set j none
    | _ => ls
def x_st (i : Nat) (v : Nat × Int) (ls : List (Option (Nat × Int))) : List (Option (Nat × Int)) := (x_kl i ls).set i (some v)
def x_stL (i : Nat) (v : Nat × Int) (ls : List (Option (Nat × Int))) : List (Option (Nat × Int)) := ((x_kl i ls).set i (some v)).set (i + 1) none
theorem x_kl_at {i j : Nat} {ls : List (Option (Nat × Int))} {u : Nat × Int} (h : (x_kl i ls)[j]? = some (some u)) : ls[j]? = some (some u) ∧ (j + 1 = i → ¬ u.1 = 1) := by
  cases i with
  | zero => exact ⟨h, fun h => by omega⟩
  | succ i =>
    rw [x_kl] at h
    split at h
    next z hz =>
      by_cases hj : j = i
      · subst hj
        rw [List.getElem?_set_self (List.getElem?_eq_some_iff.mp hz).1] at h
        cases h
      · rw [List.getElem?_set_ne (Ne.symm hj)] at h
        exact ⟨h, fun q => by omega⟩
    next hz =>
      refine ⟨h, fun q hu => ?_⟩
      have hj : j = i := by omega
      subst hj
      obtain ⟨u1, u2⟩ := u
      have hu : u1 = 1 := hu
      subst hu
      exact hz _ h
theorem x_st_at {i j : Nat} {ls : List (Option (Nat × Int))} {u v : Nat × Int} (h : (x_st i v ls)[j]? = some (some u)) : (j = i ∧ u = v) ∨ (j ≠ i ∧ ls[j]? = some (some u) ∧ (j + 1 = i → ¬ u.1 = 1)) := by
  unfold x_st at h
  by_cases hj : j = i
  · subst hj
    have hlt := (List.getElem?_eq_some_iff.mp h).1
    rw [List.getElem?_set_self (by simpa using hlt)] at h
    exact Or.inl ⟨rfl, by cases h; rfl⟩
  · rw [List.getElem?_set_ne (Ne.symm hj)] at h
    exact Or.inr ⟨hj, x_kl_at h⟩
theorem x_stL_at {i j : Nat} {ls : List (Option (Nat × Int))} {u v : Nat × Int} (h : (x_stL i v ls)[j]? = some (some u)) : (j = i ∧ u = v) ∨ (j ≠ i ∧ j ≠ i + 1 ∧ ls[j]? = some (some u) ∧ (j + 1 = i → ¬ u.1 = 1)) := by
  unfold x_stL at h
  by_cases h1 : j = i + 1
  · subst h1
    have hlt := (List.getElem?_eq_some_iff.mp h).1
    rw [List.getElem?_set_self (by simpa using hlt)] at h
    cases h
  · rw [List.getElem?_set_ne (Ne.symm h1)] at h
    by_cases hj : j = i
    · subst hj
      have hlt := (List.getElem?_eq_some_iff.mp h).1
      rw [List.getElem?_set_self (by simpa using hlt)] at h
      exact Or.inl ⟨rfl, by cases h; rfl⟩
    · rw [List.getElem?_set_ne (Ne.symm hj)] at h
      exact Or.inr ⟨hj, h1, x_kl_at h⟩
theorem x_st_ok {i : Nat} {v : Nat × Int} (h : x_ok L v) (hv : x_okl L ls) : x_okl L (x_st i v ls) := by
  intro u hu
  obtain ⟨j, hj⟩ := List.getElem?_of_mem hu
  rcases x_st_at hj with ⟨-, rfl⟩ | ⟨-, h2, -⟩
  · exact h
  · exact hv u (List.mem_of_getElem? h2)
theorem x_stL_ok {i : Nat} {v : Nat × Int} (h : x_ok L v) (hv : x_okl L ls) : x_okl L (x_stL i v ls) := by
  intro u hu
  obtain ⟨j, hj⟩ := List.getElem?_of_mem hu
  rcases x_stL_at hj with ⟨-, rfl⟩ | ⟨-, -, h2, -⟩
  · exact h
  · exact hv u (List.mem_of_getElem? h2)
theorem x_st_lv {ρ : Nat → Nat} {i nL : Nat} {v : Nat × Int} {lsA : Array Slot} (h : lv_has lsA nL ((i, x_rv ρ v) :: (x_lv ρ 0 ls).filter (fun q => !(q.1 == i) && !(q.1 + 1 == i && q.2.category == 2)))) : lv_has lsA nL (x_lv ρ 0 (x_st i v ls)) := by
  refine ⟨h.1, h.2.1, fun q hq => h.2.2 q ?_⟩
  obtain ⟨j, u, hj, rfl⟩ := (x_lv_mem ρ _ 0 q).mp hq
  rcases x_st_at hj with ⟨rfl, rfl⟩ | ⟨h1, h2, h3⟩
  · rw [Nat.zero_add]; exact List.mem_cons_self
  · refine List.mem_cons_of_mem _ (List.mem_filter.mpr ⟨(x_lv_mem ρ _ 0 _).mpr ⟨j, u, h2, rfl⟩, ?_⟩)
    show (!(0 + j == i) && !(0 + j + 1 == i && (x_rv ρ u).category == 2)) = true
    rw [Nat.zero_add, x_cat]
    by_cases h4 : j + 1 = i
    · rw [if_neg (h3 h4)]; simp [h1]
    · simp [h1, h4]
theorem x_stL_lv {ρ : Nat → Nat} {i nL : Nat} {v : Nat × Int} {lsA : Array Slot} (h : lv_has lsA nL ((i, x_rv ρ v) :: (x_lv ρ 0 ls).filter (fun q => !(q.1 == i) && (!(q.1 == i + 1) && !(q.1 + 1 == i && q.2.category == 2))))) : lv_has lsA nL (x_lv ρ 0 (x_stL i v ls)) := by
  refine ⟨h.1, h.2.1, fun q hq => h.2.2 q ?_⟩
  obtain ⟨j, u, hj, rfl⟩ := (x_lv_mem ρ _ 0 q).mp hq
  rcases x_stL_at hj with ⟨rfl, rfl⟩ | ⟨h1, h0, h2, h3⟩
  · rw [Nat.zero_add]; exact List.mem_cons_self
  · refine List.mem_cons_of_mem _ (List.mem_filter.mpr ⟨(x_lv_mem ρ _ 0 _).mpr ⟨j, u, h2, rfl⟩, ?_⟩)
    show (!(0 + j == i) && (!(0 + j == i + 1) && !(0 + j + 1 == i && (x_rv ρ u).category == 2))) = true
    rw [Nat.zero_add, x_cat]
    by_cases h4 : j + 1 = i
    · rw [if_neg (h3 h4)]; simp [h1, h0]
    · simp [h1, h0, h4]
theorem x_istore {j : Nat} {x : Int} {ls' : List (Option (Nat × Int))} {pc : Nat} (hd : decode (x_cc μ) pc = .ok (.istore j, 2)) (hn : j < x_nL μ) (he : x_st j (vI x) ls = ls') (kk : X μ d mc ms Q (pc + 2) ls' st L G k n) : X μ d mc ms Q pc ls (vI x :: st) L G k n := by
  intro p l e s m args below meth c D cy B L0 ρ0 Z H locs lsA ρ C hR hE hS hl ho hv h1 h2
  refine lv_istore C.1 C.2.1 hd hl hn rfl (fun ls2 hl2 => ?_)
  · subst he
    exact kk p l e s m args below meth c D cy B L0 ρ0 Z H locs ls2 ρ C hR hE hS (x_st_lv hl2) (x_okt ho) (x_st_ok (x_ok1 ho) hv) h1 h2
theorem x_istoren {i : Fin 4} {j : Nat} {x : Int} {ls' : List (Option (Nat × Int))} {pc : Nat} (hd : decode (x_cc μ) pc = .ok (.istore_n i, 1)) (hj : (i : Nat) = j) (hn : j < x_nL μ) (he : x_st j (vI x) ls = ls') (kk : X μ d mc ms Q (pc + 1) ls' st L G k n) : X μ d mc ms Q pc ls (vI x :: st) L G k n := by
  intro p l e s m args below meth c D cy B L0 ρ0 Z H locs lsA ρ C hR hE hS hl ho hv h1 h2
  refine lv_istore_n C.1 C.2.1 hd hj hl hn rfl (fun ls2 hl2 => ?_)
  · subst he
    exact kk p l e s m args below meth c D cy B L0 ρ0 Z H locs ls2 ρ C hR hE hS (x_st_lv hl2) (x_okt ho) (x_st_ok (x_ok1 ho) hv) h1 h2
theorem x_lstore {j : Nat} {x : Int} {ls' : List (Option (Nat × Int))} {pc : Nat} (hd : decode (x_cc μ) pc = .ok (.lstore j, 2)) (hn : j + 1 < x_nL μ) (he : x_stL j (vL x) ls = ls') (kk : X μ d mc ms Q (pc + 2) ls' st L G k n) : X μ d mc ms Q pc ls (vL x :: st) L G k n := by
  intro p l e s m args below meth c D cy B L0 ρ0 Z H locs lsA ρ C hR hE hS hl ho hv h1 h2
  refine lv_lstore C.1 C.2.1 hd hl hn rfl (fun ls2 hl2 => ?_)
  · subst he
    exact kk p l e s m args below meth c D cy B L0 ρ0 Z H locs ls2 ρ C hR hE hS (x_stL_lv hl2) (x_okt ho) (x_stL_ok (x_ok1 ho) hv) h1 h2
theorem x_lstoren {i : Fin 4} {j : Nat} {x : Int} {ls' : List (Option (Nat × Int))} {pc : Nat} (hd : decode (x_cc μ) pc = .ok (.lstore_n i, 1)) (hj : (i : Nat) = j) (hn : j + 1 < x_nL μ) (he : x_stL j (vL x) ls = ls') (kk : X μ d mc ms Q (pc + 1) ls' st L G k n) : X μ d mc ms Q pc ls (vL x :: st) L G k n := by
  intro p l e s m args below meth c D cy B L0 ρ0 Z H locs lsA ρ C hR hE hS hl ho hv h1 h2
  refine lv_lstore_n C.1 C.2.1 hd hj hl hn rfl (fun ls2 hl2 => ?_)
  · subst he
    exact kk p l e s m args below meth c D cy B L0 ρ0 Z H locs ls2 ρ C hR hE hS (x_stL_lv hl2) (x_okt ho) (x_stL_ok (x_ok1 ho) hv) h1 h2
theorem x_astore {j : Nat} {x : Nat} {ls' : List (Option (Nat × Int))} {pc : Nat} (hd : decode (x_cc μ) pc = .ok (.astore j, 2)) (hn : j < x_nL μ) (he : x_st j (vR x) ls = ls') (kk : X μ d mc ms Q (pc + 2) ls' st L G k n) : X μ d mc ms Q pc ls (vR x :: st) L G k n := by
  intro p l e s m args below meth c D cy B L0 ρ0 Z H locs lsA ρ C hR hE hS hl ho hv h1 h2
  refine x_eqW (s2 := .ref (ρ x) :: st.map (x_rv ρ)) (by rw [List.map_cons, x_rvR]) ?_
  refine lv_astore C.1 C.2.1 hd hl hn rfl (fun ls2 hl2 => ?_)
  · subst he
    have hl2 : lv_has ls2 (x_nL μ) ((j, x_rv ρ (vR x)) :: (x_lv ρ 0 ls).filter (fun q => !(q.1 == j) && !(q.1 + 1 == j && q.2.category == 2))) := by rw [x_rvR]; exact hl2
    exact kk p l e s m args below meth c D cy B L0 ρ0 Z H locs ls2 ρ C hR hE hS (x_st_lv hl2) (x_okt ho) (x_st_ok (x_ok1 ho) hv) h1 h2
theorem x_astoren {i : Fin 4} {j : Nat} {x : Nat} {ls' : List (Option (Nat × Int))} {pc : Nat} (hd : decode (x_cc μ) pc = .ok (.astore_n i, 1)) (hj : (i : Nat) = j) (hn : j < x_nL μ) (he : x_st j (vR x) ls = ls') (kk : X μ d mc ms Q (pc + 1) ls' st L G k n) : X μ d mc ms Q pc ls (vR x :: st) L G k n := by
  intro p l e s m args below meth c D cy B L0 ρ0 Z H locs lsA ρ C hR hE hS hl ho hv h1 h2
  refine x_eqW (s2 := .ref (ρ x) :: st.map (x_rv ρ)) (by rw [List.map_cons, x_rvR]) ?_
  refine lv_astore_n C.1 C.2.1 hd hj hl hn rfl (fun ls2 hl2 => ?_)
  · subst he
    have hl2 : lv_has ls2 (x_nL μ) ((j, x_rv ρ (vR x)) :: (x_lv ρ 0 ls).filter (fun q => !(q.1 == j) && !(q.1 + 1 == j && q.2.category == 2))) := by rw [x_rvR]; exact hl2
    exact kk p l e s m args below meth c D cy B L0 ρ0 Z H locs ls2 ρ C hR hE hS (x_st_lv hl2) (x_okt ho) (x_st_ok (x_ok1 ho) hv) h1 h2
theorem x_iinc {j : Nat} {a x : Int} {ls' : List (Option (Nat × Int))} {pc : Nat} (hd : decode (x_cc μ) pc = .ok (.iinc j a, 3)) (hg : ls[j]? = some (some (vI x))) (hn : j < x_nL μ) (he : x_st j (vI (x + a)) ls = ls') (kk : X μ d mc ms Q (pc + 3) ls' st L G k n) : X μ d mc ms Q pc ls st L G k n := by
  intro p l e s m args below meth c D cy B L0 ρ0 Z H locs lsA ρ C hR hE hS hl ho hv h1 h2
  have hm : (j, x_rv ρ (vI x)) ∈ x_lv ρ 0 ls := (x_lv_mem ρ ls 0 _).mpr ⟨j, _, hg, by rw [Nat.zero_add j]⟩
  obtain ⟨z, hz⟩ := List.getElem?_of_mem hm
  refine lv_iinc (v := Int32.ofInt (x + a)) C.1 C.2.1 hd hl hz (Int32.ofInt_add x a).symm hn rfl (fun ls2 hl2 => ?_)
  subst he
  exact kk p l e s m args below meth c D cy B L0 ρ0 Z H locs ls2 ρ C hR hE hS (x_st_lv hl2) ho (x_st_ok x_okI hv) h1 h2
theorem x_iadd {x y : Int}  {pc : Nat} (hd : decode (x_cc μ) pc = .ok (.iadd, 1))  (kk : X μ d mc ms Q (pc + 1) ls (vI (x + y) :: st) L G k n) : X μ d mc ms Q pc ls (vI y :: vI x :: st) L G k n := by
  intro p l e s m args below meth c D cy B L0 ρ0 Z H locs lsA ρ C hR hE hS hl ho hv h1 h2
  refine lv_iadd C.1 C.2.1 hd ?_
  refine x_eqW (s2 := (vI (x + y) :: st).map (x_rv ρ)) (by rw [List.map_cons, x_rvI]; exact congrArg (fun z => Value.int z :: st.map (x_rv ρ)) ((Int32.ofInt_add x y).symm)) ?_
  exact kk p l e s m args below meth c D cy B L0 ρ0 Z H locs lsA ρ C hR hE hS hl (x_okA x_okI (x_okt ho)) hv h1 h2
theorem x_isub {x y : Int}  {pc : Nat} (hd : decode (x_cc μ) pc = .ok (.isub, 1))  (kk : X μ d mc ms Q (pc + 1) ls (vI (x - y) :: st) L G k n) : X μ d mc ms Q pc ls (vI y :: vI x :: st) L G k n := by
  intro p l e s m args below meth c D cy B L0 ρ0 Z H locs lsA ρ C hR hE hS hl ho hv h1 h2
  refine lv_isub C.1 C.2.1 hd ?_
  refine x_eqW (s2 := (vI (x - y) :: st).map (x_rv ρ)) (by rw [List.map_cons, x_rvI]; exact congrArg (fun z => Value.int z :: st.map (x_rv ρ)) ((Int32.ofInt_sub x y).symm)) ?_
  exact kk p l e s m args below meth c D cy B L0 ρ0 Z H locs lsA ρ C hR hE hS hl (x_okA x_okI (x_okt ho)) hv h1 h2
theorem x_imul {x y : Int}  {pc : Nat} (hd : decode (x_cc μ) pc = .ok (.imul, 1))  (kk : X μ d mc ms Q (pc + 1) ls (vI (x * y) :: st) L G k n) : X μ d mc ms Q pc ls (vI y :: vI x :: st) L G k n := by
  intro p l e s m args below meth c D cy B L0 ρ0 Z H locs lsA ρ C hR hE hS hl ho hv h1 h2
  refine lv_imul C.1 C.2.1 hd ?_
  refine x_eqW (s2 := (vI (x * y) :: st).map (x_rv ρ)) (by rw [List.map_cons, x_rvI]; exact congrArg (fun z => Value.int z :: st.map (x_rv ρ)) ((Int32.ofInt_mul x y).symm)) ?_
  exact kk p l e s m args below meth c D cy B L0 ρ0 Z H locs lsA ρ C hR hE hS hl (x_okA x_okI (x_okt ho)) hv h1 h2
theorem x_ladd {x y : Int}  {pc : Nat} (hd : decode (x_cc μ) pc = .ok (.ladd, 1))  (kk : X μ d mc ms Q (pc + 1) ls (vL (x + y) :: st) L G k n) : X μ d mc ms Q pc ls (vL y :: vL x :: st) L G k n := by
  intro p l e s m args below meth c D cy B L0 ρ0 Z H locs lsA ρ C hR hE hS hl ho hv h1 h2
  refine lv_ladd C.1 C.2.1 hd ?_
  refine x_eqW (s2 := (vL (x + y) :: st).map (x_rv ρ)) (by rw [List.map_cons, x_rvL]; exact congrArg (fun z => Value.long z :: st.map (x_rv ρ)) ((Int64.ofInt_add x y).symm)) ?_
  exact kk p l e s m args below meth c D cy B L0 ρ0 Z H locs lsA ρ C hR hE hS hl (x_okA x_okL (x_okt ho)) hv h1 h2
theorem x_lsub {x y : Int}  {pc : Nat} (hd : decode (x_cc μ) pc = .ok (.lsub, 1))  (kk : X μ d mc ms Q (pc + 1) ls (vL (x - y) :: st) L G k n) : X μ d mc ms Q pc ls (vL y :: vL x :: st) L G k n := by
  intro p l e s m args below meth c D cy B L0 ρ0 Z H locs lsA ρ C hR hE hS hl ho hv h1 h2
  refine lv_lsub C.1 C.2.1 hd ?_
  refine x_eqW (s2 := (vL (x - y) :: st).map (x_rv ρ)) (by rw [List.map_cons, x_rvL]; exact congrArg (fun z => Value.long z :: st.map (x_rv ρ)) ((Int64.ofInt_sub x y).symm)) ?_
  exact kk p l e s m args below meth c D cy B L0 ρ0 Z H locs lsA ρ C hR hE hS hl (x_okA x_okL (x_okt ho)) hv h1 h2
theorem x_lmul {x y : Int}  {pc : Nat} (hd : decode (x_cc μ) pc = .ok (.lmul, 1))  (kk : X μ d mc ms Q (pc + 1) ls (vL (x * y) :: st) L G k n) : X μ d mc ms Q pc ls (vL y :: vL x :: st) L G k n := by
  intro p l e s m args below meth c D cy B L0 ρ0 Z H locs lsA ρ C hR hE hS hl ho hv h1 h2
  refine lv_lmul C.1 C.2.1 hd ?_
  refine x_eqW (s2 := (vL (x * y) :: st).map (x_rv ρ)) (by rw [List.map_cons, x_rvL]; exact congrArg (fun z => Value.long z :: st.map (x_rv ρ)) ((Int64.ofInt_mul x y).symm)) ?_
  exact kk p l e s m args below meth c D cy B L0 ρ0 Z H locs lsA ρ C hR hE hS hl (x_okA x_okL (x_okt ho)) hv h1 h2
end XR
