/-! row: a row of rows made -/
section XMA4
variable {μ : x_M} {d mc ms : Nat} {Q : x_Q} {ls : List (Option (Nat × Int))} {st : List (Nat × Int)} {L : List Nat} {G : Nat → Nat → Int} {k n : Nat}
theorem x_newM {r N M idx : Nat} {a b : Int} {pc : Nat} (hd : decode (x_cc μ) pc = .ok (.multianewarray idx 2, 4)) (hln : Cond.classLink (x_own μ) idx "[[I" ∈ x_tb) (ha : a = (N : Int)) (hb : b = (M : Int)) (hN : N ≤ 1000) (hM : M ≤ 36000) (hid : ∀ j, j < N → r + 1 + j ∉ L ∧ xK (r + 1 + j) = (13, M)) (hr : r ∉ L ∧ r ≠ 0) (hk : xK r = (18, N)) (hcap : k + (1 + N) ≤ mc ∧ n + (N + N * M) ≤ ms)
    (kk : X μ d mc ms Q (pc + 4) ls (vR r :: st) ((L ++ (List.range N).map fun j => r + 1 + j) ++ [r]) (x_nwH (x_nwR G r N) r (fun j => if j < N then ((r + 1 + j : Nat) : Int) else -1)) (k + 1 + N) (n + N + N * M)) : X μ d mc ms Q pc ls (vI b :: vI a :: st) L G k n := by
  intro p l e s m args below meth c D cy B L0 ρ0 Z H locs lsA ρ C hR hE hS hl ho hv h1 h2
  subst ha
  subst hb
  have hts := C.2.2.2.2.1
  have hK := C.2.2.2.2.2.1.1
  have hov : (Cond.arrayOver (.array .int)).before args s = true := C.2.2.2.2.2.1.2 _ lo_I rfl
  have e1 : s.vm.findClass "[I" = some (cy 13) := (hK.2 0 _ rfl).2
  have e2 : s.vm.findClass "[[I" = some (cy 18) := (hK.2 5 _ rfl).2
  refine x_eqW (s2 := .int (Int32.ofInt (M : Int)) :: .int (Int32.ofInt (N : Int)) :: st.map (x_rv ρ)) (by rw [List.map_cons, List.map_cons, x_rvI, x_rvI]) ?_
  refine x_Wmulti (N := N) (M := M) C.1 C.2.1 C.2.2.2.1 (hts _ hln) hov (hts _ la_I) hd (z_neg (by omega) (by omega)) (z_neg (by omega) (by omega)) (by rw [z_clamp (by omega) (by omega), Int.toNat_natCast]) (by rw [z_clamp (by omega) (by omega), Int.toNat_natCast]) (by omega) (by omega) hcap.1 hcap.2 (fun cA comp H1 f1 f2 f3 f4 f5 f6 => ?_)
  have ecA : cA = cy 18 := Option.some.inj (f1.symm.trans e2)
  have eco : comp = cy 13 := Option.some.inj (f2.symm.trans e1)
  subst ecA
  subst eco
  have hBH : B ≤ H.size := hR.2.2.2.2.2
  obtain ⟨ρi, i1, i2, i3, i4⟩ := x_inners (hR.kept f6 (by omega)) f5 hBH (fun i hi => hR.adr i hi) hid N (Nat.le_refl _)
  have hrn : r ∉ (L ++ (List.range N).map fun j => r + 1 + j) ∧ r ≠ 0 := ⟨fun w => by
    rcases List.mem_append.mp w with w | w
    · exact hr.1 w
    · obtain ⟨j, hj, e⟩ := List.mem_map.mp w
      omega, hr.2⟩
  obtain ⟨j1, j2⟩ := i1.one (a := H.size) hrn (g := fun j => if j < N then ((r + 1 + j : Nat) : Int) else -1) (fun j _ => by
    by_cases c : j < N
    · simp only [if_pos c]
      exact Or.inr (Or.inr (by rw [Int.toNat_natCast]; exact List.mem_append_right _ (List.mem_map.mpr ⟨j, List.mem_range.mpr c, rfl⟩)))
    · simp only [if_neg c]
      exact Or.inl (by decide)) (fun x hx => (i4 x hx).2) hBH (by
    rw [x_ceR hk (by decide)]
    show H1[H.size]? = some _
    rw [f4, x_outerE _ _ _ N (Nat.le_refl _), vp_cell_q]
    refine congrArg (fun f => some (arrV (cy 18) N f)) (funext fun j => ?_)
    by_cases c : j < N
    · rw [if_pos c, if_pos c, if_neg (by omega), Int.toNat_natCast, i3 j c]
    · rw [if_neg c, if_neg c, if_pos (by decide)])
  have hx := i2.tr j2
  have ho := x_okt (x_okt ho)
  have hrm : r ∈ (L ++ (List.range N).map fun j => r + 1 + j) ++ [r] := List.mem_append_right _ (List.mem_singleton.mpr rfl)
  refine x_eqW (s2 := (vR r :: st).map (x_rv (x_rn ρi r H.size))) ?_ ?_
  · rw [List.map_cons, x_rvR, x_map_ext hx ho]
    show _ = Value.ref (x_rn ρi r H.size r) :: _
    unfold x_rn
    rw [if_pos rfl]
  · refine kk p l e s m args below meth c D cy B L0 ρ0 Z H1 _ lsA (x_rn ρi r H.size) C j1 (hE.tr hx) ⟨Nat.le_trans hS.1 (by omega), fun x y1 y2 => (f6 x (Nat.lt_of_lt_of_le y1 hS.1)).trans (hS.2.1 x y1 y2), fun q hq => ?_⟩ (by rw [x_lv_ext hx ls 0 hv]; exact hl) (x_okc (x_okR hrm) (fun v hv' w => (ho v hv' w).ext hx)) (fun v hv' w => (hv v hv' w).ext hx) (by omega) (by omega)
    rcases List.mem_append.mp hq with w | w
    · exact hS.2.2 q w
    · obtain ⟨j, _, e⟩ := List.mem_map.mp w
      rw [← e]; exact hBH
end XMA4

