/-! the reference: are these the lengths told, what is told at a place -/
section XTM
variable {L : List Nat} {z tn : Nat → Nat} {tw : Nat → Int}
theorem l_mo_aT {G : Nat → Nat → Int} (hL : x_SL L) (hF : x_Fin xFL G) (hz : mFL z G) (hT : mTd tw tn G) :
    ∀ (r u : Nat) (v : Int), u + r = 4 → ((v = 1 ∧ ∀ w, w < u → z w = tn w) ∨ (v = 0 ∧ ¬ ∀ w, w < 4 → z w = tn w)) → X mX12_areTold 0 0 0 (qI L fun x G' => ((x = 1 ∧ ∀ w, w < 4 → z w = tn w) ∨ (x = 0 ∧ ¬ ∀ w, w < 4 → z w = tn w)) ∧ G' = G) 4 [some (vR 127), some (vI v), some (vI u)] [] L G 0 0 := by
  intro r
  induction r with
  | zero =>
    intro u v hu hv
    have hu : u = 4 := by omega
    subst hu
    have hv01 : v = 0 ∨ v = 1 := by rcases hv with ⟨h, _⟩ | ⟨h, _⟩ <;> simp [h]
    refine x_iloadn (pc := 4) dX12_areTold_4 rfl ?_
    refine x_iconst (pc := 5) dX12_areTold_5 ?_
    refine x_cge (tgt := 40) (pc := 6) dX12_areTold_6 (by decide) (by omega) (fun c_6 => ?_) (fun c_6 => ?_)
    rotate_left
    · skip
      exact absurd c_6 (by decide)
    refine x_iloadn (pc := 40) dX12_areTold_40 rfl ?_
    refine x_rZ (pc := 41) dX12_areTold_41 rfl (by omega) ?_
    exact ⟨hv, rfl⟩
  | succ r ih =>
    intro u v hu hv
    have z1 := (hz u (by omega)).1
    have z2 := (hz u (by omega)).2
    have t1 := (hT u (by omega)).2.1
    have t2 := (hT u (by omega)).2.2.1
    rcases hv with ⟨rfl, hv⟩ | ⟨rfl, hv⟩
    · skip
      refine x_iloadn (pc := 4) dX12_areTold_4 rfl ?_
      refine x_iconst (pc := 5) dX12_areTold_5 ?_
      refine x_cge (tgt := 40) (pc := 6) dX12_areTold_6 (by decide) (by omega) (fun c_6 => ?_) (fun c_6 => ?_)
      · skip
        exact absurd c_6 (by omega)
      refine x_iloadn (pc := 9) dX12_areTold_9 rfl ?_
      refine x_ieq (tgt := 32) (pc := 10) dX12_areTold_10 (by decide) (by omega) (fun c_10 => ?_) (fun c_10 => ?_)
      · skip
        exact absurd c_10 (by decide)
      refine x_aloadn (pc := 13) dX12_areTold_13 rfl ?_
      refine x_getR (144) (pc := 14) dX12_areTold_14 fl_X12_58 k_127 (hL 127 (by decide) (by decide)) (f_127_20 hF) ?_
      refine x_iloadn (pc := 17) dX12_areTold_17 rfl ?_
      refine x_iald (u) (pc := 18) dX12_areTold_18 k_144 (hL 144 (by decide) (by decide)) (⟨by omega, by omega, by decide⟩) ?_
      rw [z1]
      refine x_aloadn (pc := 19) dX12_areTold_19 rfl ?_
      refine x_getR (135) (pc := 20) dX12_areTold_20 fl_X12_31 k_127 (hL 127 (by decide) (by decide)) (f_127_10 hF) ?_
      refine x_iloadn (pc := 23) dX12_areTold_23 rfl ?_
      refine x_iald (u) (pc := 24) dX12_areTold_24 k_135 (hL 135 (by decide) (by decide)) (⟨by omega, by omega, by decide⟩) ?_
      rw [t1]
      refine x_cne (tgt := 32) (pc := 25) dX12_areTold_25 (by decide) (by omega) (fun c_25 => ?_) (fun c_25 => ?_)
      · skip
        refine x_iconst (pc := 32) dX12_areTold_32 ?_
        refine x_istoren (pc := 33) dX12_areTold_33 rfl (by decide) rfl ?_
        refine x_iinc (pc := 34) dX12_areTold_34 rfl (by decide) rfl ?_
        refine x_goto (tgt := 4) (pc := 37) dX12_areTold_37 (by decide) ?_
        first
        | (refine ih (u + 1) 1 (by omega) (Or.inl ⟨rfl, fun w hw => ?_⟩)
           by_cases e : w = u
           · subst e; omega
           · exact hv w (by omega))
        | exact ih (u + 1) 0 (by omega) (Or.inr ⟨rfl, fun k => by have := k u (by omega); omega⟩)
      · skip
        refine x_iconst (pc := 28) dX12_areTold_28 ?_
        refine x_goto (tgt := 33) (pc := 29) dX12_areTold_29 (by decide) ?_
        refine x_istoren (pc := 33) dX12_areTold_33 rfl (by decide) rfl ?_
        refine x_iinc (pc := 34) dX12_areTold_34 rfl (by decide) rfl ?_
        refine x_goto (tgt := 4) (pc := 37) dX12_areTold_37 (by decide) ?_
        first
        | (refine ih (u + 1) 1 (by omega) (Or.inl ⟨rfl, fun w hw => ?_⟩)
           by_cases e : w = u
           · subst e; omega
           · exact hv w (by omega))
        | exact ih (u + 1) 0 (by omega) (Or.inr ⟨rfl, fun k => by have := k u (by omega); omega⟩)
    · skip
      refine x_iloadn (pc := 4) dX12_areTold_4 rfl ?_
      refine x_iconst (pc := 5) dX12_areTold_5 ?_
      refine x_cge (tgt := 40) (pc := 6) dX12_areTold_6 (by decide) (by omega) (fun c_6 => ?_) (fun c_6 => ?_)
      · skip
        exact absurd c_6 (by omega)
      refine x_iloadn (pc := 9) dX12_areTold_9 rfl ?_
      refine x_ieq (tgt := 32) (pc := 10) dX12_areTold_10 (by decide) (by omega) (fun c_10 => ?_) (fun c_10 => ?_)
      rotate_left
      · skip
        exact absurd rfl c_10
      refine x_iconst (pc := 32) dX12_areTold_32 ?_
      refine x_istoren (pc := 33) dX12_areTold_33 rfl (by decide) rfl ?_
      refine x_iinc (pc := 34) dX12_areTold_34 rfl (by decide) rfl ?_
      refine x_goto (tgt := 4) (pc := 37) dX12_areTold_37 (by decide) ?_
      exact ih (u + 1) 0 (by omega) (Or.inr ⟨rfl, hv⟩)
theorem c_mo_areTold {G : Nat → Nat → Int} (hL : x_SL L) (hF : x_Fin xFL G) (hz : mFL z G) (hT : mTd tw tn G) :
    CM yX12_areTold mX12_areTold 0 0 0 [vR 127] L G (qI L fun x G' => ((x = 1 ∧ ∀ w, w < 4 → z w = tn w) ∨ (x = 0 ∧ ¬ ∀ w, w < 4 → z w = tn w)) ∧ G' = G) := by
  refine Ct.of_X (μ := mX12_areTold) rfl rfl (by decide) (fun h => by cases h) (Nat.le_of_ble_eq_true rfl) rfl ?_
  refine x_iconst (pc := 0) dX12_areTold_0 ?_
  refine x_istoren (pc := 1) dX12_areTold_1 rfl (by decide) rfl ?_
  refine x_iconst (pc := 2) dX12_areTold_2 ?_
  refine x_istoren (pc := 3) dX12_areTold_3 rfl (by decide) rfl ?_
  exact l_mo_aT hL hF hz hT 4 0 1 (by omega) (Or.inl ⟨rfl, fun w hw => absurd hw (Nat.not_lt_zero w)⟩)
end XTM

