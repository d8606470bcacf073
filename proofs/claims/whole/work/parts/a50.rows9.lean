/-! rows: rows of objects made, an object laid into one -/
theorem lo_S : Cond.arrayOver (.object "TwoSides$Side") ∈ lw_tbl := tt_1 (List.mem_of_getElem? (i := 47) rfl)
theorem lo_W : Cond.arrayOver (.object "TwoSides$Word") ∈ lw_tbl := tt_1 (List.mem_of_getElem? (i := 214) rfl)
section XRR9
variable {μ : x_M} {d mc ms : Nat} {Q : x_Q} {ls : List (Option (Nat × Int))} {st : List (Nat × Int)} {L : List Nat} {G : Nat → Nat → Int} {k n : Nat}
theorem x_newQ {N q t t0 idx : Nat} {C : String} {x : Int} {pc : Nat} (hd : decode (x_cc μ) pc = .ok (.anewarray idx, 3)) (hln : Cond.classLink (x_own μ) idx C ∈ x_tb) (hov : Cond.arrayOver (.object C) ∈ lw_tbl) (ht : 16 ≤ t ∧ ∀ cy : Nat → ClassId, (x_tys cy)[t0]? = some (cy t, .object C)) (hx : x = N) (hN : N ≤ 36000) (hq : q ∉ L ∧ q ≠ 0) (hk : xK q = (t, N)) (hcap : k + 1 ≤ mc ∧ n + N ≤ ms) (kk : X μ d mc ms Q (pc + 3) ls (vR q :: st) (L ++ [q]) (x_nwG G q) (k + 1) (n + N)) : X μ d mc ms Q pc ls (vI x :: st) L G k n := by
  intro p l e s m args below meth c D cy B L0 ρ0 Z H locs lsA ρ C0 hR hE hS hl ho hv h1 h2
  subst hx
  have hts := C0.2.2.2.2.1
  refine x_eqW (s2 := .int (Int32.ofInt (N : Int)) :: st.map (x_rv ρ)) (by rw [List.map_cons, x_rvI]) ?_
  refine va_newq C0.1 C0.2.1 C0.2.2.2.1 (hts _ hln) (C0.2.2.2.2.2.1.2 _ hov rfl) C0.2.2.2.2.2.1.1 hR.1 hR.2.1 hS (fun q hq => Nat.le_trans C0.2.2.2.2.2.2.1 hq) (z_neg (by omega) (by omega)) (by rw [z_clamp (by omega) (by omega), Int.toNat_natCast]) (by omega) hcap.1 hcap.2 hd (fun a cA H1 hK1 hP1 hD1 hS1 => ?_)
  obtain ⟨_, _, _, _, _, e1⟩ := (hK1.2 6 (cA, .object C) rfl).2
  obtain ⟨_, _, _, _, _, e2⟩ := (C0.2.2.2.2.2.1.1.2 t0 (cy t, .object C) (ht.2 cy)).2
  have ecA : cA = cy t := Option.some.inj (e1.symm.trans e2)
  subst ecA
  have hce : x_ce cy ρ (xK q) (x_g0 (xK q)) = .inl (cy t, N, .inr (.inr (.inr (.inr (fun _ => none))))) := by
    rw [x_ceR hk ht.1]
    refine congrArg (fun f => (.inl (cy t, N, .inr (.inr (.inr (.inr f)))) : va_E)) (funext fun j => ?_)
    have : x_g0 (xK q) j < 0 := by
      have hs : x_isR (t, N) j = true := by
        unfold x_isR
        rw [if_neg (show ¬ (t, N).1 ≤ 12 by show ¬ t ≤ 12; omega)]
        exact decide_eq_true ht.1
      unfold x_g0
      rw [hk, if_pos hs]
      decide
    rw [if_pos this]
  rw [← hce] at hP1 hD1
  exact x_made C0 hR hE hS1 hl (x_okt ho) hv hq hcap hP1 hD1 kk
theorem x_astQ {N n0 r v t t0 ci : Nat} {C : vw_C} (j : Nat) {a : Int} {pc : Nat} (hd : decode (x_cc μ) pc = .ok (.aastore, 1)) (hk : xK r = (t, N)) (hr : r ∈ L) (hkv : xK v = (ci, n0)) (hvL : v ∈ L) (ht : 16 ≤ t ∧ ∀ cy : Nat → ClassId, (x_tys cy)[t0]? = some (cy t, .object C.1)) (hc : ci ≤ 12 ∧ vwCl[ci]? = some C) (hj : a = (j : Int) ∧ j < N ∧ N < 2147483648) (kk : X μ d mc ms Q (pc + 1) ls st L (x_up G r j ((v : Nat) : Int)) k n) : X μ d mc ms Q pc ls (vR v :: vI a :: vR r :: st) L G k n := by
  intro p l e s m args below meth c D cy B L0 ρ0 Z H locs lsA ρ C0 hR hE hS hl ho hv h1 h2
  obtain ⟨z, hz⟩ := x_mem hr
  obtain ⟨zv, hzv⟩ := x_mem hvL
  have hw := x_wl_at (cy := cy) (ρ := ρ) (G := G) hz
  have hwv := x_wl_at (cy := cy) (ρ := ρ) (G := G) hzv
  rw [x_ceR hk ht.1] at hw
  rw [x_ceO hkv hc.1] at hwv
  obtain ⟨hj, hb, hN⟩ := hj
  subst hj
  have hin : vp_in (Int32.ofInt (j : Int)) N := z_vpin (by omega) (by omega) hN
  have hcl : (Int32.ofInt (j : Int)).toNatClampNeg = j := by rw [z_clamp (by omega) (by omega), Int.toNat_natCast]
  refine x_eqW (s2 := .ref (ρ v) :: .int (Int32.ofInt (j : Int)) :: .ref (ρ r) :: st.map (x_rv ρ)) (by rw [List.map_cons, List.map_cons, List.map_cons, x_rvR, x_rvR, x_rvI]) ?_
  refine va_astq C0.1 C0.2.1 C0.2.2.2.2.2.1.1 hR.1 hR.2.1 hS z t0 zv ci hw (ht.2 cy) hwv hc.2 hin hd (fun H1 locs1 hP1 hD1 hS1 => ?_)
  have hset : (x_wl cy ρ L G).set z (ρ r, .inl (cy t, N, .inr (.inr (.inr (.inr (va_up (fun j => if G r j < 0 then none else some (ρ (G r j).toNat)) (Int32.ofInt (j : Int)).toNatClampNeg (some (ρ v)))))))) = x_wl cy ρ L (x_up G r j ((v : Nat) : Int)) := by
    refine x_wl_set hR.2.2.1 hz (fun i hi => x_up_ne hi) ?_
    rw [x_ceR hk ht.1, hcl]
    refine congrArg (fun f => (.inl (cy t, N, .inr (.inr (.inr (.inr f)))) : va_E)) (funext fun q => ?_)
    by_cases hq : q = j
    · subst hq
      rw [va_up_self, x_up_s, if_neg (by omega), Int.toNat_natCast]
    · rw [va_up_ne _ _ hq, x_up_k hq]
  rw [hset] at hP1 hD1
  exact kk p l e s m args below meth c D cy B L0 ρ0 Z H1 locs1 lsA ρ C0 (hR.set hP1 hD1 (Nat.le_trans C0.2.2.2.2.2.2.1 hS1.1) (fun _ => Or.inr (Or.inr (by rw [Int.toNat_natCast]; exact hvL)))) hE hS1 hl (x_okt (x_okt (x_okt ho))) hv h1 h2
end XRR9
/-! what constructors leave: cells made, places written -/
def x_mk (nw : List Nat) (us : List (Nat × Nat × Int)) (G : Nat → Nat → Int) : Nat → Nat → Int := fun i j => match us with
  | [] => if i ∈ nw then x_g0 (xK i) j else G i j
  | t :: us => if i = t.1 ∧ j = t.2.1 then t.2.2 else x_mk nw us G i j
theorem x_mk0 (G : Nat → Nat → Int) : x_mk [] [] G = G := by
  funext i j; unfold x_mk; rw [if_neg List.not_mem_nil]
theorem x_mk_up (nw : List Nat) (us : List (Nat × Nat × Int)) (G : Nat → Nat → Int) (r j : Nat) (z : Int) : x_up (x_mk nw us G) r j z = x_mk nw ((r, j, z) :: us) G := by
  funext i k; rw [x_mk]; rfl
def x_fr (q : Nat) (us : List (Nat × Nat × Int)) : Bool := us.all fun t => !(t.1 == q)
theorem x_fr_c {q : Nat} {t : Nat × Nat × Int} {us : List (Nat × Nat × Int)} (h : x_fr q (t :: us) = true) : t.1 ≠ q ∧ x_fr q us = true := by
  unfold x_fr at h ⊢
  rw [List.all_cons, Bool.and_eq_true] at h
  exact ⟨by simpa using h.1, h.2⟩
theorem x_mk_nw {nw : List Nat} {q : Nat} {G : Nat → Nat → Int} : ∀ {us : List (Nat × Nat × Int)}, x_fr q us = true → x_nwG (x_mk nw us G) q = x_mk (nw ++ [q]) us G
  | [], _ => by
    funext i j
    rw [x_mk, x_nwG, x_mk]
    by_cases c : i = q
    · rw [if_pos c, if_pos (List.mem_append_right _ (List.mem_singleton.mpr c)), c]
    · rw [if_neg c]
      by_cases c2 : i ∈ nw
      · rw [if_pos c2, if_pos (List.mem_append_left _ c2)]
      · rw [if_neg c2, if_neg (fun w => by rcases List.mem_append.mp w with w | w; exact c2 w; exact c (List.mem_singleton.mp w))]
  | t :: us, h => by
    obtain ⟨h1, h2⟩ := x_fr_c h
    have ih := x_mk_nw (nw := nw) (G := G) h2
    funext i j
    have ih := congrFun (congrFun ih i) j
    rw [x_nwG] at ih ⊢
    rw [x_mk, x_mk]
    by_cases c : i = q
    · rw [if_pos c] at ih ⊢
      rw [if_neg (fun w => h1 (w.1.symm.trans c)), ih]
    · rw [if_neg c] at ih ⊢
      rw [ih]
theorem x_mk_mk {nw1 nw2 : List Nat} {us1 : List (Nat × Nat × Int)} {G : Nat → Nat → Int} (h : ∀ q ∈ nw2, x_fr q us1 = true) : ∀ {us2 : List (Nat × Nat × Int)}, x_mk nw2 us2 (x_mk nw1 us1 G) = x_mk (nw1 ++ nw2) (us2 ++ us1) G
  | [] => by
    funext i j
    rw [x_mk, List.nil_append]
    induction us1 with
    | nil =>
      rw [x_mk, x_mk]
      by_cases c : i ∈ nw2
      · rw [if_pos c, if_pos (List.mem_append_right _ c)]
      · rw [if_neg c]
        by_cases c1 : i ∈ nw1
        · rw [if_pos c1, if_pos (List.mem_append_left _ c1)]
        · rw [if_neg c1, if_neg (fun w => by rcases List.mem_append.mp w with w | w; exact c1 w; exact c w)]
    | cons t us ih =>
      have ih := ih (fun q hq => (x_fr_c (h q hq)).2)
      rw [x_mk, x_mk]
      by_cases c : i ∈ nw2
      · rw [if_pos c] at ih ⊢
        rw [if_neg (fun w => (x_fr_c (h i c)).1 w.1.symm), ih]
      · rw [if_neg c] at ih ⊢
        rw [ih]
  | t :: us2 => by
    have ih := x_mk_mk (nw1 := nw1) (G := G) h (us2 := us2)
    funext i j
    rw [List.cons_append, x_mk, x_mk, ih]
/-- what stands there, where it was made or written -/
def x_mkv (nw : List Nat) (us : List (Nat × Nat × Int)) (i j : Nat) : Option Int := match us with
  | [] => if nw.contains i then some (x_g0 (xK i) j) else none
  | t :: us => if i == t.1 && j == t.2.1 then some t.2.2 else x_mkv nw us i j
theorem x_mk_v {nw : List Nat} {G : Nat → Nat → Int} {i j : Nat} {z : Int} : ∀ {us : List (Nat × Nat × Int)}, x_mkv nw us i j = some z → x_mk nw us G i j = z
  | [], h => by
    rw [x_mkv] at h
    rw [x_mk]
    by_cases c : i ∈ nw
    · rw [if_pos c]
      rw [if_pos (List.contains_iff_mem.mpr c)] at h
      exact Option.some.inj h
    · rw [if_neg (fun w => c (List.contains_iff_mem.mp w))] at h
      cases h
  | t :: us, h => by
    rw [x_mkv] at h
    rw [x_mk]
    by_cases c : i = t.1 ∧ j = t.2.1
    · rw [if_pos c]
      rw [if_pos (by simp [c.1, c.2])] at h
      exact Option.some.inj h
    · rw [if_neg c]
      rw [if_neg (by simpa using c)] at h
      exact x_mk_v h
theorem x_mk_o {nw : List Nat} {G : Nat → Nat → Int} {i j : Nat} : ∀ {us : List (Nat × Nat × Int)}, x_mkv nw us i j = none → x_mk nw us G i j = G i j
  | [], h => by
    rw [x_mkv] at h
    rw [x_mk]
    by_cases c : i ∈ nw
    · rw [if_pos (List.contains_iff_mem.mpr c)] at h
      cases h
    · rw [if_neg c]
  | t :: us, h => by
    rw [x_mkv] at h
    rw [x_mk]
    by_cases c : i = t.1 ∧ j = t.2.1
    · rw [if_pos (by simp [c.1, c.2])] at h
      cases h
    · rw [if_neg c]
      rw [if_neg (by simpa using c)] at h
      exact x_mk_o h
theorem x_nin {q : Nat} {L T : List Nat} (h1 : q ∉ L) (h2 : q ∉ T) : q ∉ L ++ T := fun w => by
  rcases List.mem_append.mp w with w | w
  · exact h1 w
  · exact h2 w
/-- cells are new -/
def x_new (lo hi : Nat) (L : List Nat) : Prop := ∀ i, lo ≤ i → i < hi → i ∉ L
theorem x_new.app {lo hi : Nat} {L T : List Nat} (h : x_new lo hi L) (k : ∀ i ∈ T, i < lo ∨ hi ≤ i) : x_new lo hi (L ++ T) := fun i h1 h2 => x_nin (h i h1 h2) (fun w => by have := k i w; omega)
theorem x_new.mono {lo hi lo' hi' : Nat} {L : List Nat} (h : x_new lo hi L) (h1 : lo ≤ lo') (h2 : hi' ≤ hi) : x_new lo' hi' L := fun i k1 k2 => h i (by omega) (by omega)
/-- what a constructor leaves -/
def qK (L nw : List Nat) (us : List (Nat × Nat × Int)) (G : Nat → Nat → Int) : x_Q := fun v L' G' => v = none ∧ L' = L ++ nw ∧ G' = x_mk nw us G

