/-! the law: both sides made, what stands then -/
def z_nA : List Nat := [] ++ [1] ++ nw_1 ++ [127] ++ nw_127
def z_uA : List (Nat × Nat × Int) := us_127 ++ (us_1 ++ [])
theorem z_nA_in : ∀ i, i < 167 → 1 ≤ i → i ∈ z_nA := by decide +kernel
theorem z_nA_lt : ∀ i ∈ z_nA, i < 167 := by decide +kernel
theorem z_v {G : Nat → Nat → Int} {i j : Nat} {z : Int} (h : x_mkv z_nA z_uA i j = some z) : x_mk z_nA z_uA G i j = z := x_mk_v h
theorem z_v4 {G : Nat → Nat → Int} {i : Nat} {f : Nat → Int} (h : ((List.range 4).all fun j => decide (x_mkv z_nA z_uA i j = some (f j))) = true) {j : Nat} (hj : j < 4) : x_mk z_nA z_uA G i j = f j := x_mk_v (of_decide_eq_true (List.all_eq_true.mp h j (List.mem_range.mpr hj)))
section XIN
variable {L : List Nat} {G : Nat → Nat → Int}
theorem z_fin : x_Fin xFL (x_mk z_nA z_uA G) := fun t ht => by
  have h0 : (xFL.all fun t => decide (x_mkv z_nA z_uA t.1 t.2.1 = some ((t.2.2 : Nat) : Int))) = true := by decide +kernel
  exact x_mk_v (of_decide_eq_true (List.all_eq_true.mp h0 t ht))
theorem z_iT : iT (x_mk z_nA z_uA G) := ⟨0, fun _ => 0, ⟨z_v (by decide +kernel), by decide, fun i hi => absurd hi (Nat.not_lt_zero i)⟩, ⟨z_v (by decide +kernel), by decide, fun i hi => absurd hi (Nat.not_lt_zero i)⟩⟩
theorem z_iH : iH (x_mk z_nA z_uA G) := ⟨fun _ => 0, fun _ => 0, fun u hu => ⟨z_v4 (f := fun _ => 0) (by decide +kernel) hu, z_v4 (f := fun _ => 0) (by decide +kernel) hu, (show (0 : Nat) ≤ 8 by decide), ⟨(show (-2147483648 : Int) ≤ 0 by decide), (show (0 : Int) < 2147483648 by decide)⟩, fun j hj => absurd hj (Nat.not_lt_zero j)⟩, fun u hu => ⟨z_v4 (f := fun _ => 0) (by decide +kernel) hu, z_v4 (f := fun _ => 0) (by decide +kernel) hu, (show (0 : Nat) ≤ 8 by decide), ⟨(show (-2147483648 : Int) ≤ 0 by decide), (show (0 : Int) < 2147483648 by decide)⟩, fun j hj => absurd hj (Nat.not_lt_zero j)⟩⟩
theorem z_iD : iD (x_mk z_nA z_uA G) := by
  refine ⟨fun _ => 0, fun _ _ => 0, fun i hi => ⟨?_, (show (0 : Nat) ≤ 30 by decide), fun j hj => absurd hj (Nat.not_lt_zero j)⟩, fun i hi => ⟨z_v4 (f := fun _ => 0) (by decide +kernel) hi, (show (0 : Nat) ≤ 30 by decide), fun j hj => absurd hj (Nat.not_lt_zero j)⟩⟩
  have h : ∀ i, i < 4 → x_mkv z_nA z_uA (99 + 7 * i) 1 = some 0 := by decide +kernel
  exact z_v (h i hi)
theorem z_iP : iP (x_mk z_nA z_uA G) := by
  have h : ∀ i, i < 4 → x_mkv z_nA z_uA (101 + 7 * i) 4 = some 0 ∧ x_mkv z_nA z_uA (101 + 7 * i) 5 = some 0 ∧ ∀ u, u < 4 → x_mkv z_nA z_uA (101 + 7 * i + 2) u = some 0 := by decide +kernel
  exact ⟨fun _ => 0, fun _ _ => 0, fun i hi => ⟨z_v (h i hi).1, (show (0 : Nat) ≤ 12 by decide), fun j hj => absurd hj (Nat.not_lt_zero j), fun u hu => z_v ((h i hi).2.2 u hu), z_v (h i hi).2.1⟩, fun i hi => ⟨z_v4 (f := fun _ => 0) (by decide +kernel) hi, (show (0 : Nat) ≤ 12 by decide), fun j hj => absurd hj (Nat.not_lt_zero j)⟩⟩
theorem z_iS : iS (x_mk z_nA z_uA G) := ⟨0, fun _ => 0, fun _ _ => 0, ⟨z_v (by decide +kernel), by decide, fun i hi => absurd hi (Nat.not_lt_zero i)⟩, ⟨z_v (by decide +kernel), by decide, fun i hi => absurd hi (Nat.not_lt_zero i)⟩, cSo_0 (z_v (by decide +kernel))⟩
theorem z_nn {q : Nat} (h : 167 ≤ q) : q ∉ z_nA := fun w => by have := z_nA_lt q w; omega
theorem z_iE : iE z_nA (x_mk z_nA z_uA G) := by
  refine ⟨0, fun _ => 0, fun _ _ => 0, fun _ => 0, fun _ => 4, fun _ => 7, ⟨z_v (by decide +kernel), by decide, fun q hq => absurd hq (Nat.not_lt_zero q)⟩, ⟨z_v (by decide +kernel), by decide, fun q hq => absurd hq (Nat.not_lt_zero q)⟩,
    fun u hu => ⟨z_v4 (f := fun _ => 0) (by decide +kernel) hu, z_v4 (f := fun _ => 4) (by decide +kernel) hu, z_v4 (f := fun _ => 7) (by decide +kernel) hu, (show (0 : Nat) ≤ 4 by decide), (show (4 : Nat) ≤ 8 by decide), (show (7 : Nat) ≤ 7 by decide)⟩,
    fun u hu => ⟨z_v4 (f := fun _ => 0) (by decide +kernel) hu, z_v4 (f := fun _ => 4) (by decide +kernel) hu, z_v4 (f := fun _ => 7) (by decide +kernel) hu, (show (0 : Nat) ≤ 4 by decide), (show (4 : Nat) ≤ 8 by decide), (show (7 : Nat) ≤ 7 by decide)⟩,
    cSuv_0 (z_v (by decide +kernel)), ⟨fun e he => ⟨Or.inl (z_v4 (f := fun _ => 0) (by decide +kernel) he), Or.inr ⟨z_v4 (f := fun j => ((79 + j : Nat) : Int)) (by decide +kernel) he, z_nn (by omega)⟩⟩, Or.inr ⟨z_v (by decide +kernel), fun i i1 i2 => z_nn (by omega)⟩⟩⟩
theorem z_inv : zInv z_nA (x_mk z_nA z_uA G) :=
  ⟨z_iT, z_iE, z_iH, z_iD, z_iP, z_iS, Or.inr ⟨z_nn (by decide), z_nn (by decide), z_v (by decide +kernel), z_v (by decide +kernel)⟩, z_fin, fun i i1 i2 => z_nA_in i i2 i1⟩
end XIN
theorem pC_b (L : List Nat) : pC L ≤ 26 ∧ pS L ≤ 38759 := by
  unfold pC pS
  have a : ∀ (p : Prop) [Decidable p] (a : Nat), (if p then 0 else a) ≤ a := fun p _ a => by split <;> omega
  have a1 := a (169 ∈ L) 1; have a2 := a (170 ∈ L) 1; have a3 := a (171 ∈ L) 1; have a4 := a (172 ∈ L) 1; have a5 := a (173 ∈ L) 22
  have b1 := a (169 ∈ L) 1500; have b2 := a (170 ∈ L) 1500; have b3 := a (171 ∈ L) 1500; have b4 := a (172 ∈ L) 1500; have b5 := a (173 ∈ L) 32759
  omega
theorem w_start {N : Nat} {sc : Nat → Int} {G : Nat → Nat → Int} (hN : N ≤ 2560) (hsc : zSc sc) : X (mL_law N sc) 10 600000 7302250 qT 0 [some (vR 0), none, none, none] [] [] G 0 0 := by
  have hB : ∀ lo hi, x_new lo hi [] := fun _ _ _ _ _ => List.not_mem_nil
  have hb := pC_b z_nA
  refine y_start ?_
  refine y_newO (q := 1) (pc := 0) dL_law_0 rfl inX11 tyX11_ok lc_new_L_7 ln_X11 lt_X11 (by decide) ftX11 List.not_mem_nil (by decide) (by decide) rfl k_1 ⟨by decide, by decide⟩ ?_
  refine x_dup (pc := 3) dL_law_3 (fun h => by cases h) ?_
  refine y_callI (pc := 4) dL_law_4 lk_L_9 (k_init_1 (List.mem_append.mpr (Or.inr (by decide))) ((hB 2 127).app (by decide))) (Or.inr (by decide)) ⟨by decide, by decide⟩ ⟨by decide, by decide⟩ (Nat.le_of_ble_eq_true rfl) (by decide +kernel) ?_
  refine x_astoren (ls' := [some (vR 0), some (vR 1), none, none]) (pc := 7) dL_law_7 rfl (show 1 < 4 by decide) rfl ?_
  refine y_newO (q := 127) (pc := 8) dL_law_8 rfl inX12 tyX12_ok lc_new_L_10 ln_X12 lt_X12 (by decide) ftX12 List.not_mem_nil (by decide) (by decide +kernel) (by decide +kernel) k_127 ⟨by decide, by decide⟩ ?_
  refine x_dup (pc := 11) dL_law_11 (fun h => by cases h) ?_
  refine y_callI (pc := 12) dL_law_12 lk_L_12 (k_init_127 (List.mem_append.mpr (Or.inr (by decide +kernel))) ((hB 128 167).app (by decide +kernel))) (Or.inr (by decide +kernel)) ⟨by decide, by decide⟩ ⟨by decide, by decide⟩ (Nat.le_of_ble_eq_true rfl) (by decide +kernel) ?_
  refine x_astoren (ls' := [some (vR 0), some (vR 1), some (vR 127), none]) (pc := 15) dL_law_15 rfl (show 2 < 4 by decide) rfl ?_
  refine x_iconst (pc := 16) dL_law_16 ?_
  refine x_istoren (ls' := [some (vR 0), some (vR 1), some (vR 127), some (vI ((0 : Nat) : Int))]) (pc := 17) dL_law_17 rfl (show 3 < 4 by decide) rfl ?_
  exact w_loop hN hsc 512 0 z_nA (x_mk z_nA z_uA G) _ _ (by omega) (by omega) z_inv ⟨by omega, by omega⟩

