/-! TwoSides$Alike: nodes in classes (two objects: 56 and 84) -/
def xAl (r : Nat) : Prop := r = 56 ∨ r = 84
theorem al_k0 {r : Nat} (h : xAl r) : xK r = (0, 0) := by rcases h with rfl | rfl <;> rfl
theorem al_k1 {r : Nat} (h : xAl r) : xK (r + 1) = (13, 60) := by rcases h with rfl | rfl <;> rfl
theorem al_k2 {r : Nat} (h : xAl r) : xK (r + 2) = (13, 60) := by rcases h with rfl | rfl <;> rfl
theorem al_m0 {r : Nat} {L : List Nat} (h : xAl r) (hL : x_SL L) : r ∈ L := by rcases h with rfl | rfl <;> exact hL _ (by decide) (by decide)
theorem al_m1 {r : Nat} {L : List Nat} (h : xAl r) (hL : x_SL L) : r + 1 ∈ L := by rcases h with rfl | rfl <;> exact hL _ (by decide) (by decide)
theorem al_m2 {r : Nat} {L : List Nat} (h : xAl r) (hL : x_SL L) : r + 2 ∈ L := by rcases h with rfl | rfl <;> exact hL _ (by decide) (by decide)
theorem al_f0 {r : Nat} {G : Nat → Nat → Int} (h : xAl r) (hF : x_Fin xFL G) : G r 0 = ((r + 1 : Nat) : Int) := by rcases h with rfl | rfl <;> exact hF (_, _, _) (by decide)
theorem al_f1 {r : Nat} {G : Nat → Nat → Int} (h : xAl r) (hF : x_Fin xFL G) : G r 1 = ((r + 2 : Nat) : Int) := by rcases h with rfl | rfl <;> exact hF (_, _, _) (by decide)
theorem c_Al_first {r n : Nat} {a : Int} {L : List Nat} {G : Nat → Nat → Int} (hA : xAl r) (hL : x_SL L) (hF : x_Fin xFL G) (hn : G r 2 = n) (hn6 : n ≤ 60) (ha : -2147483648 ≤ a ∧ a < 2147483648) :
    CM yX0_first mX0_first 0 0 0 [vR r, vI a] L G (qI L fun x G' => x = (if 0 ≤ a ∧ a < n then G (r + 1) a.toNat else -1) ∧ G' = G) := by
  refine Ct.of_X (μ := mX0_first) rfl rfl (by decide) (fun h => by cases h) (Nat.le_of_ble_eq_true rfl) rfl ?_
  refine x_iloadn (pc := 0) dX0_first_0 rfl ?_
  refine x_ilt (tgt := 21) (pc := 1) dX0_first_1 (by decide) (by omega) (fun c_1 => ?_) (fun c_1 => ?_)
  · skip
    refine x_iconst (pc := 21) dX0_first_21 ?_
    refine x_rI (pc := 22) dX0_first_22 rfl ?_
    exact ⟨by split <;> first | rfl | omega, rfl⟩
  · skip
    refine x_iloadn (pc := 4) dX0_first_4 rfl ?_
    refine x_aloadn (pc := 5) dX0_first_5 rfl ?_
    refine x_getI (pc := 6) dX0_first_6 fl_X0_18 (al_k0 hA) (al_m0 hA hL) ?_
    refine x_cge (tgt := 21) (pc := 9) dX0_first_9 (by decide) (by omega) (fun c_9 => ?_) (fun c_9 => ?_)
    · skip
      refine x_iconst (pc := 21) dX0_first_21 ?_
      refine x_rI (pc := 22) dX0_first_22 rfl ?_
      exact ⟨by split <;> first | rfl | omega, rfl⟩
    · skip
      refine x_aloadn (pc := 12) dX0_first_12 rfl ?_
      refine x_getR (r + 1) (pc := 13) dX0_first_13 fl_X0_9 (al_k0 hA) (al_m0 hA hL) (al_f0 hA hF) ?_
      refine x_iloadn (pc := 16) dX0_first_16 rfl ?_
      refine x_iald (a.toNat) (pc := 17) dX0_first_17 (al_k1 hA) (al_m1 hA hL) (⟨by omega, by omega, by decide⟩) ?_
      refine x_goto (tgt := 22) (pc := 18) dX0_first_18 (by decide) ?_
      refine x_rI (pc := 22) dX0_first_22 rfl ?_
      exact ⟨by split <;> first | rfl | omega, rfl⟩

