/-! rows: cells made -/
def x_g0 (k : Nat × Nat) (j : Nat) : Int := if x_isR k j = true then -1 else 0
def x_nwG (G : Nat → Nat → Int) (q : Nat) : Nat → Nat → Int := fun i j => if i = q then x_g0 (xK q) j else G i j
def x_rn (ρ : Nat → Nat) (q a : Nat) : Nat → Nat := fun i => if i = q then a else ρ i
theorem x_nwG_ne {G : Nat → Nat → Int} {q i : Nat} (h : i ≠ q) : x_nwG G q i = G i := by
  funext j; unfold x_nwG; rw [if_neg h]
theorem x_ce_cg {cy : Nat → ClassId} {ρ ρ' : Nat → Nat} {k : Nat × Nat} {g g' : Nat → Int} (hg : ∀ j, g' j = g j) (hr : ∀ j, x_isR k j = true → x_ref ρ' (g j) = x_ref ρ (g j)) : x_ce cy ρ' k g' = x_ce cy ρ k g := by
  have eg : g' = g := funext hg
  subst eg
  unfold x_ce
  by_cases c1 : k.1 ≤ 12
  · rw [if_pos c1, if_pos c1]
    refine congrArg (fun l => (.inr (k.1, l) : va_E)) ?_
    apply List.ext_getElem?
    intro j
    rw [List.getElem?_mapIdx, List.getElem?_mapIdx]
    cases e : (xFT k.1)[j]? with
    | none => rfl
    | some t =>
      have hh : t = 2 → x_ref ρ' (g' j) = x_ref ρ (g' j) := fun e2 => hr j (by unfold x_isR; rw [if_pos c1, e, e2]; rfl)
      show some (x_fv ρ' t (g' j)) = some (x_fv ρ t (g' j))
      unfold x_fv
      by_cases h1 : t = 1
      · rw [if_pos h1, if_pos h1]
      · rw [if_neg h1, if_neg h1]
        by_cases h2 : t = 2
        · rw [if_pos h2, if_pos h2, hh h2]
        · rw [if_neg h2, if_neg h2]
  · rw [if_neg c1, if_neg c1]
    by_cases c2 : k.1 = 14
    · rw [if_pos c2, if_pos c2]
    · rw [if_neg c2, if_neg c2]
      by_cases c3 : k.1 ≤ 15
      · rw [if_pos c3, if_pos c3]
      · rw [if_neg c3, if_neg c3]
        refine congrArg (fun f => (.inl (cy k.1, k.2, .inr (.inr (.inr (.inr f)))) : va_E)) (funext fun j => ?_)
        have hh := hr j (by unfold x_isR; rw [if_neg c1]; exact decide_eq_true (by omega))
        by_cases hz : g' j < 0
        · rw [if_pos hz, if_pos hz]
        · rw [if_neg hz, if_neg hz]
          unfold x_ref at hh
          rw [if_neg hz, if_neg hz] at hh
          injection hh with hh
          rw [hh]
theorem x_ref_neg {ρ : Nat → Nat} {z : Int} (h : z < 0) : x_ref ρ z = .null := if_pos h
theorem x_Rep.new {D : va_G} {cy : Nat → ClassId} {B : Nat} {ρ : Nat → Nat} {L : List Nat} {G : Nat → Nat → Int} {H H1 : Heap} {q a : Nat} (h : x_Rep D cy B ρ L G H) (hq : q ∉ L ∧ q ≠ 0) (hP : va_P D vwCl (x_wl cy ρ L G ++ [(a, x_ce cy ρ (xK q) (x_g0 (xK q)))]) H1) (hD : va_D (x_A B) (x_wl cy ρ L G ++ [(a, x_ce cy ρ (xK q) (x_g0 (xK q)))])) (hB : B ≤ H1.size) : x_Rep D cy B (x_rn ρ q a) (L ++ [q]) (x_nwG G q) H1 ∧ x_ext L ρ (L ++ [q]) (x_rn ρ q a) := by
  have hρ : ∀ i, i ≠ q → x_rn ρ q a i = ρ i := fun i hi => if_neg hi
  have hmem : ∀ i ∈ L, i ≠ q := fun i hi e => hq.1 (e ▸ hi)
  have hext : x_ext L ρ (L ++ [q]) (x_rn ρ q a) := ⟨fun i hi => ⟨List.mem_append_left _ hi, hρ i (hmem i hi)⟩, hρ 0 (fun e => hq.2 e.symm)⟩
  have hwl : x_wl cy (x_rn ρ q a) (L ++ [q]) (x_nwG G q) = x_wl cy ρ L G ++ [(a, x_ce cy ρ (xK q) (x_g0 (xK q)))] := by
    unfold x_wl
    rw [List.map_append]
    congr 1
    · refine List.map_congr_left fun i hi => ?_
      have e1 : x_nwG G q i = G i := x_nwG_ne (hmem i hi)
      rw [hρ i (hmem i hi), e1]
      exact congrArg (fun e => (ρ i, e)) (x_ce_cg (fun _ => rfl) (fun j hj => x_ref_ext hext (h.2.2.2.2.1 i hi j hj)))
    · show [(x_rn ρ q a q, x_ce cy (x_rn ρ q a) (xK q) (x_nwG G q q))] = _
      have e2 : x_rn ρ q a q = a := if_pos rfl
      rw [e2]
      refine congrArg (fun e => [(a, e)]) (x_ce_cg (fun j => if_pos rfl) (fun j hj => ?_))
      have : x_g0 (xK q) j < 0 := by unfold x_g0; rw [if_pos hj]; decide
      rw [x_ref_neg this, x_ref_neg this]
  refine ⟨⟨by rw [hwl]; exact hP, by rw [hwl]; exact hD, fun i j r h1 h2 => ?_, fun w => ?_, fun i hi j hj => ?_, hB⟩, hext⟩
  · by_cases ci : i < L.length
    · rw [List.getElem?_append_left ci] at h1
      by_cases cj : j < L.length
      · rw [List.getElem?_append_left cj] at h2
        exact h.2.2.1 i j r h1 h2
      · rw [List.getElem?_append_right (by omega)] at h2
        have hr : r = q := by
          cases e : j - L.length with
          | zero => rw [e] at h2; exact (Option.some.inj h2).symm
          | succ n => rw [e] at h2; cases h2
        exact absurd (hr ▸ List.mem_of_getElem? h1) hq.1
    · rw [List.getElem?_append_right (by omega)] at h1
      have hr : r = q ∧ i - L.length = 0 := by
        cases e : i - L.length with
        | zero => rw [e] at h1; exact ⟨(Option.some.inj h1).symm, rfl⟩
        | succ n => rw [e] at h1; cases h1
      by_cases cj : j < L.length
      · rw [List.getElem?_append_left cj] at h2
        exact absurd (hr.1 ▸ List.mem_of_getElem? h2) hq.1
      · rw [List.getElem?_append_right (by omega)] at h2
        have hj : j - L.length = 0 := by
          cases e : j - L.length with
          | zero => rfl
          | succ n => rw [e] at h2; cases h2
        omega
  · rcases List.mem_append.mp w with w | w
    · exact h.2.2.2.1 w
    · exact hq.2 (List.mem_singleton.mp w).symm
  · rcases List.mem_append.mp hi with hi | hi
    · rw [x_nwG_ne (hmem i hi)]
      exact (h.2.2.2.2.1 i hi j hj).ext hext
    · rw [List.mem_singleton.mp hi] at hj ⊢
      left
      unfold x_nwG x_g0
      rw [if_pos rfl, if_pos hj]; decide
section XR9
variable {μ : x_M} {d mc ms : Nat} {Q : x_Q} {pc : Nat} {ls : List (Option (Nat × Int))} {st : List (Nat × Int)} {L : List Nat} {G : Nat → Nat → Int} {k n : Nat}
/-- behind a making: the goal in the new world -/
theorem x_made {p : Program} {l : Launch} {e : Env} {s : State} {m : MethodId} {args : Array Value} {below : List Frame} {meth : Method} {c : Code} {D : va_G} {cy : Nat → ClassId} {B : Nat} {L0 : List Nat} {ρ0 : Nat → Nat} {Z : State → Prop} {H H1 : Heap} {locs : List Loc} {lsA : Array Slot} {ρ : Nat → Nat} {q a k1 n1 pc1 : Nat}
    (C : x_C μ d mc ms Q p l e s m args below meth c D cy B L0 ρ0 Z) (hR : x_Rep D cy B ρ L G H) (hE : x_ext L0 ρ0 L ρ) (hS1 : va_S (x_A B) s.heap H1 locs) (hl : lv_has lsA (x_nL μ) (x_lv ρ 0 ls)) (ho : x_okS L st) (hv : x_okl L ls) (hq : q ∉ L ∧ q ≠ 0) (hcap : k1 ≤ mc ∧ n1 ≤ ms)
    (hP1 : va_P D vwCl (x_wl cy ρ L G ++ [(a, x_ce cy ρ (xK q) (x_g0 (xK q)))]) H1) (hD1 : va_D (x_A B) (x_wl cy ρ L G ++ [(a, x_ce cy ρ (xK q) (x_g0 (xK q)))]))
    (kk : X μ d mc ms Q pc1 ls (vR q :: st) (L ++ [q]) (x_nwG G q) k1 n1) : W p l e (x_rm d mc ms) s m args below meth c H1 locs k1 n1 Z (F0 m pc1 lsA (.ref a :: st.map (x_rv ρ))) := by
  obtain ⟨hR1, hx⟩ := hR.new hq hP1 hD1 (Nat.le_trans C.2.2.2.2.2.2.1 hS1.1)
  have hqm : q ∈ L ++ [q] := List.mem_append_right _ (List.mem_singleton.mpr rfl)
  refine x_eqW (s2 := (vR q :: st).map (x_rv (x_rn ρ q a))) ?_ ?_
  · rw [List.map_cons, x_rvR, x_map_ext hx ho]
    show _ = Value.ref (x_rn ρ q a q) :: _
    unfold x_rn
    rw [if_pos rfl]
  · refine kk p l e s m args below meth c D cy B L0 ρ0 Z H1 locs lsA (x_rn ρ q a) C hR1 (hE.tr hx) hS1 (by rw [x_lv_ext hx ls 0 hv]; exact hl) (x_okc (x_okR hqm) (fun v hv' w => (ho v hv' w).ext hx)) (fun v hv' w => (hv v hv' w).ext hx) hcap.1 hcap.2
theorem x_newI {N q : Nat} {x : Int} {pc : Nat} (hd : decode (x_cc μ) pc = .ok (.newarray .int, 2)) (hx : x = N) (hN : N ≤ 36000) (hq : q ∉ L ∧ q ≠ 0) (hk : xK q = (13, N)) (harr : Cond.arrayClass .int ∈ x_tb) (hcap : k + 1 ≤ mc ∧ n + N ≤ ms) (kk : X μ d mc ms Q (pc + 2) ls (vR q :: st) (L ++ [q]) (x_nwG G q) (k + 1) (n + N)) : X μ d mc ms Q pc ls (vI x :: st) L G k n := by
  intro p l e s m args below meth c D cy B L0 ρ0 Z H locs lsA ρ C hR hE hS hl ho hv h1 h2
  subst hx
  have hts := C.2.2.2.2.1
  refine x_eqW (s2 := .int (Int32.ofInt (N : Int)) :: st.map (x_rv ρ)) (by rw [List.map_cons, x_rvI]) ?_
  refine va_newa (atype := .int) (ty := .int) (a0 := (N, .inl (fun _ => Int32.ofInt 0))) C.1 C.2.1 (hts _ harr) rfl C.2.2.2.2.2.1.1 hR.1 hR.2.1 hS (fun q hq => Nat.le_trans C.2.2.2.2.2.2.1 hq) (fun _ => rfl) (z_neg (by omega) (by omega)) (by rw [z_clamp (by omega) (by omega), Int.toNat_natCast]) (by show N * 4 ≤ 536870912; omega) hcap.1 hcap.2 hd (fun a cA H1 hK1 hP1 hD1 hS1 => ?_)
  have e1 := (hK1.2 6 (cA, .int) rfl).2
  have e2 := (C.2.2.2.2.2.1.1.2 0 (cy 13, .int) rfl).2
  have ecA : cA = cy 13 := Option.some.inj (e1.symm.trans e2)
  subst ecA
  have hce : x_ce cy ρ (xK q) (x_g0 (xK q)) = .inl (cy 13, N, .inl (fun _ => Int32.ofInt 0)) := by
    rw [x_ceI hk]
    refine congrArg (fun f => (.inl (cy 13, N, .inl f) : va_E)) (funext fun j => ?_)
    rw [hk]; rfl
  rw [← hce] at hP1 hD1
  exact x_made C hR hE hS1 hl (x_okt ho) hv hq hcap hP1 hD1 kk
theorem x_newJ {N q : Nat} {x : Int} {pc : Nat} (hd : decode (x_cc μ) pc = .ok (.newarray .long, 2)) (hx : x = N) (hN : N ≤ 36000) (hq : q ∉ L ∧ q ≠ 0) (hk : xK q = (14, N)) (harr : Cond.arrayClass .long ∈ x_tb) (hcap : k + 1 ≤ mc ∧ n + N ≤ ms) (kk : X μ d mc ms Q (pc + 2) ls (vR q :: st) (L ++ [q]) (x_nwG G q) (k + 1) (n + N)) : X μ d mc ms Q pc ls (vI x :: st) L G k n := by
  intro p l e s m args below meth c D cy B L0 ρ0 Z H locs lsA ρ C hR hE hS hl ho hv h1 h2
  subst hx
  have hts := C.2.2.2.2.1
  refine x_eqW (s2 := .int (Int32.ofInt (N : Int)) :: st.map (x_rv ρ)) (by rw [List.map_cons, x_rvI]) ?_
  refine va_newa (atype := .long) (ty := .long) (a0 := (N, .inr (.inl (fun _ => Int64.ofInt 0)))) C.1 C.2.1 (hts _ harr) rfl C.2.2.2.2.2.1.1 hR.1 hR.2.1 hS (fun q hq => Nat.le_trans C.2.2.2.2.2.2.1 hq) (fun _ => rfl) (z_neg (by omega) (by omega)) (by rw [z_clamp (by omega) (by omega), Int.toNat_natCast]) (by show N * 8 ≤ 536870912; omega) hcap.1 hcap.2 hd (fun a cA H1 hK1 hP1 hD1 hS1 => ?_)
  have e1 := (hK1.2 6 (cA, .long) rfl).2
  have e2 := (C.2.2.2.2.2.1.1.2 1 (cy 14, .long) rfl).2
  have ecA : cA = cy 14 := Option.some.inj (e1.symm.trans e2)
  subst ecA
  have hce : x_ce cy ρ (xK q) (x_g0 (xK q)) = .inl (cy 14, N, .inr (.inl (fun _ => Int64.ofInt 0))) := by
    rw [x_ceJ hk]
    refine congrArg (fun f => (.inl (cy 14, N, .inr (.inl f)) : va_E)) (funext fun j => ?_)
    rw [hk]; rfl
  rw [← hce] at hP1 hD1
  exact x_made C hR hE hS1 hl (x_okt ho) hv hq hcap hP1 hD1 kk
theorem x_newZ {N q : Nat} {x : Int} {pc : Nat} (hd : decode (x_cc μ) pc = .ok (.newarray .boolean, 2)) (hx : x = N) (hN : N ≤ 36000) (hq : q ∉ L ∧ q ≠ 0) (hk : xK q = (15, N)) (harr : Cond.arrayClass .boolean ∈ x_tb) (hcap : k + 1 ≤ mc ∧ n + N ≤ ms) (kk : X μ d mc ms Q (pc + 2) ls (vR q :: st) (L ++ [q]) (x_nwG G q) (k + 1) (n + N)) : X μ d mc ms Q pc ls (vI x :: st) L G k n := by
  intro p l e s m args below meth c D cy B L0 ρ0 Z H locs lsA ρ C hR hE hS hl ho hv h1 h2
  subst hx
  have hts := C.2.2.2.2.1
  refine x_eqW (s2 := .int (Int32.ofInt (N : Int)) :: st.map (x_rv ρ)) (by rw [List.map_cons, x_rvI]) ?_
  refine va_newa (atype := .boolean) (ty := .boolean) (a0 := (N, .inl (fun _ => Int32.ofInt 0))) C.1 C.2.1 (hts _ harr) rfl C.2.2.2.2.2.1.1 hR.1 hR.2.1 hS (fun q hq => Nat.le_trans C.2.2.2.2.2.2.1 hq) (fun _ => rfl) (z_neg (by omega) (by omega)) (by rw [z_clamp (by omega) (by omega), Int.toNat_natCast]) (by show N * 1 ≤ 536870912; omega) hcap.1 hcap.2 hd (fun a cA H1 hK1 hP1 hD1 hS1 => ?_)
  have e1 := (hK1.2 6 (cA, .boolean) rfl).2
  have e2 := (C.2.2.2.2.2.1.1.2 2 (cy 15, .boolean) rfl).2
  have ecA : cA = cy 15 := Option.some.inj (e1.symm.trans e2)
  subst ecA
  have hce : x_ce cy ρ (xK q) (x_g0 (xK q)) = .inl (cy 15, N, .inl (fun _ => Int32.ofInt 0)) := by
    rw [x_ceZ hk]
    refine congrArg (fun f => (.inl (cy 15, N, .inl f) : va_E)) (funext fun j => ?_)
    rw [hk]; rfl
  rw [← hce] at hP1 hD1
  exact x_made C hR hE hS1 hl (x_okt ho) hv hq hcap hP1 hD1 kk
end XR9

