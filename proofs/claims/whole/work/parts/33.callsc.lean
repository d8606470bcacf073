/-! the class: item, bounds, tell, unknowns -/
def cBd (lo hi mk : Nat → Nat) (G : Nat → Nat → Int) : Prop := ∀ u, u < 4 → G 47 u = lo u ∧ G 48 u = hi u ∧ G 49 u = mk u ∧ lo u ≤ hi u ∧ hi u ≤ 8 ∧ mk u ≤ 7
def cTd (tw : Nat → Int) (tn : Nat → Nat) (G : Nat → Nat → Int) : Prop := ∀ u, u < 4 → G 50 u = tw u ∧ G 51 u = tn u ∧ tn u ≤ 8 ∧ (-2147483648 ≤ tw u ∧ tw u < 2147483648) ∧ zgood (tw u) (tn u)
theorem c_ts_item {m : Nat} {S : Nat → Nat} {I : Nat → Nat → Nat} {e s i : Int} {L : List Nat} {G : Nat → Nat → Int} (hL : x_SL L) (hF : x_Fin xFL G) (hE : cEq m S I G) (he : -2147483648 ≤ e ∧ e < 2147483648) (hs : -2147483648 ≤ s ∧ s < 2147483648) (hi : -2147483648 ≤ i ∧ i < 2147483648) :
    CM yX11_item mX11_item 1 0 0 [vR 1, vI e, vI s, vI i] L G (qI L fun x G' => x = zitm m S I e s i ∧ G' = G) := by
  obtain ⟨h1, h2, h3⟩ := id hE
  refine Ct.of_X (μ := mX11_item) rfl rfl (by decide) (fun h => by cases h) (Nat.le_of_ble_eq_true rfl) rfl ?_
  refine x_aloadn (pc := 0) dX11_item_0 rfl ?_
  refine x_getR (4) (pc := 1) dX11_item_1 fl_X11_19 k_1 (hL 1 (by decide) (by decide)) (f_1_1 hF) ?_
  refine x_iloadn (pc := 4) dX11_item_4 rfl ?_
  refine x_cVI (pc := 5) dX11_item_5 lk_X11_94 (c_Eq_has hL hE he) k_4 ⟨by decide, rfl⟩ (hL 4 (by decide) (by decide)) (⟨by decide, by decide⟩) (Nat.le_of_ble_eq_true rfl) rfl ?_
  rintro x G' ⟨rfl, rfl⟩
  refine x_ine (tgt := 14) (pc := 8) dX11_item_8 (by decide) (by split <;> omega) (fun c_8 => ?_) (fun c_8 => ?_)
  · skip
    refine x_iloadn (pc := 14) dX11_item_14 rfl ?_
    refine x_ilt (tgt := 27) (pc := 15) dX11_item_15 (by decide) (by omega) (fun c_15 => ?_) (fun c_15 => ?_)
    · skip
      refine x_bipush (pc := 27) dX11_item_27 (by decide) ?_
      refine x_rI (pc := 29) dX11_item_29 rfl ?_
      exact ⟨by unfold zitm; rw [if_neg (by split at c_8 <;> omega), if_pos (by omega)], rfl⟩
    · skip
      refine x_iloadn (pc := 18) dX11_item_18 rfl ?_
      refine x_iconst (pc := 19) dX11_item_19 ?_
      refine x_cgt (tgt := 27) (pc := 20) dX11_item_20 (by decide) (by omega) (fun c_20 => ?_) (fun c_20 => ?_)
      · skip
        refine x_bipush (pc := 27) dX11_item_27 (by decide) ?_
        refine x_rI (pc := 29) dX11_item_29 rfl ?_
        exact ⟨by unfold zitm; rw [if_neg (by split at c_8 <;> omega), if_pos (by omega)], rfl⟩
      · skip
        refine x_iloadn (pc := 23) dX11_item_23 rfl ?_
        refine x_ige (tgt := 30) (pc := 24) dX11_item_24 (by decide) (by omega) (fun c_24 => ?_) (fun c_24 => ?_)
        · skip
          have g1 : 0 ≤ e ∧ e < m := by split at c_8 <;> omega
          obtain ⟨E, rfl⟩ : ∃ E : Nat, e = E := ⟨e.toNat, by omega⟩
          obtain ⟨U, rfl⟩ : ∃ U : Nat, s = U := ⟨s.toNat, by omega⟩
          obtain ⟨i, rfl⟩ : ∃ j : Nat, i = j := ⟨i.toNat, by omega⟩
          have et : (2 * (E : Int) + (U : Int)).toNat = 2 * E + U := by omega
          refine x_aloadn (pc := 30) dX11_item_30 rfl ?_
          refine x_getR (4) (pc := 31) dX11_item_31 fl_X11_19 k_1 (hL 1 (by decide) (by decide)) (f_1_1 hF) ?_
          refine x_iloadn (pc := 34) dX11_item_34 rfl ?_
          refine x_iloadn (pc := 35) dX11_item_35 rfl ?_
          refine x_cVR (pc := 36) dX11_item_36 lk_X11_97 (c_Eq_side (k := 2 * E + U) hL hF (by omega) (by omega) (by omega) (by omega)) k_4 ⟨by decide, rfl⟩ (hL 4 (by decide) (by decide)) (⟨by decide, by decide⟩) (Nat.le_of_ble_eq_true rfl) rfl ?_
          rintro q G' ⟨rfl, hG⟩
          subst hG
          refine x_iloadn (pc := 39) dX11_item_39 rfl ?_
          refine x_cVI (pc := 40) dX11_item_40 lk_X11_101 (c_Sd_at (eq_sd (k := 2 * E + U) (by omega)) hL hF (h3 (2 * E + U) (by omega)) (by omega)) (sd_k (eq_sd (k := 2 * E + U) (by omega))).1 ⟨by decide, rfl⟩ (sd_m (eq_sd (k := 2 * E + U) (by omega)) hL 0 (by decide)) (⟨by decide, by decide⟩) (Nat.le_of_ble_eq_true rfl) rfl ?_
          rintro x G' ⟨rfl, rfl⟩
          refine x_rI (pc := 43) dX11_item_43 rfl ?_
          refine ⟨?_, rfl⟩
          have ez : zitm m S I (E : Int) (U : Int) (i : Int) = if (i : Int) < S (2 * E + U) then (I (2 * E + U) (i : Int).toNat : Int) else -1 := by unfold zitm; rw [if_neg (by omega), if_neg (by omega), et]
          rw [ez]
          by_cases c : i < S (2 * E + U)
          · rw [if_pos (by omega), if_pos (by omega)]
          · rw [if_neg (by omega), if_neg (by omega)]
        · skip
          refine x_bipush (pc := 27) dX11_item_27 (by decide) ?_
          refine x_rI (pc := 29) dX11_item_29 rfl ?_
          exact ⟨by unfold zitm; rw [if_neg (by split at c_8 <;> omega), if_pos (by omega)], rfl⟩
  · skip
    refine x_bipush (pc := 11) dX11_item_11 (by decide) ?_
    refine x_rI (pc := 13) dX11_item_13 rfl ?_
    exact ⟨by unfold zitm; rw [if_pos (by split at c_8 <;> omega)], rfl⟩
theorem zup_id {α : Type} {f : Nat → α} {k : Nat} {x : α} (h : f k = x) : zup f k x = f := by
  funext q
  by_cases c : q = k
  · subst c; rw [zup_s, h]
  · rw [zup_n c]
abbrev pLim (L : List Nat) (G : Nat → Nat → Int) (lo hi mk : Nat → Nat) (u a c e : Nat) : x_Q := qV L fun G' => cBd (zup lo u a) (zup hi u c) (zup mk u e) G' ∧ x_Fin xFL G' ∧ ((G' = G ∧ zup lo u a = lo ∧ zup hi u c = hi ∧ zup mk u e = mk) ∨ (G' 46 13 = 0 ∧ (∀ j, j ≠ 13 → G' 46 j = G 46 j) ∧ FR [46, 47, 48, 49] G G'))
theorem c_an_limit {lo hi mk : Nat → Nat} {u a c e : Nat} {L : List Nat} {G : Nat → Nat → Int} (hL : x_SL L) (hF : x_Fin xFL G) (hB : cBd lo hi mk G) (hu : u < 4) (h1 : a ≤ c) (h2 : c ≤ 8) (h3 : e ≤ 7) :
    CM yX1_limit mX1_limit 1 0 0 [vR 46, vI u, vI a, vI c, vI e] L G (pLim L G lo hi mk u a c e) := by
  obtain ⟨b1, b2, b3, b4, b5, b6⟩ := hB u hu
  have fin : ∀ G', (∀ q, q ≠ u → G' 47 q = G 47 q ∧ G' 48 q = G 48 q ∧ G' 49 q = G 49 q) → G' 47 u = (a : Int) → G' 48 u = (c : Int) → G' 49 u = (e : Int) → cBd (zup lo u a) (zup hi u c) (zup mk u e) G' := by
    intro G' k0 k1 k2 k3 q hq
    by_cases d : q = u
    · subst d; rw [zup_s, zup_s, zup_s]; exact ⟨k1, k2, k3, h1, h2, h3⟩
    · rw [zup_n d, zup_n d, zup_n d, (k0 q d).1, (k0 q d).2.1, (k0 q d).2.2]; exact hB q hq
  refine Ct.of_X (μ := mX1_limit) rfl rfl (by decide) (fun h => by cases h) (Nat.le_of_ble_eq_true rfl) rfl ?_
  refine x_iloadn (pc := 0) dX1_limit_0 rfl ?_
  refine x_cSNI (pc := 1) dX1_limit_1 lk_X1_68 (c_ts_none (by omega)) (⟨by decide, by decide⟩) (Nat.le_of_ble_eq_true rfl) rfl ?_
  rintro x G' ⟨rfl, rfl⟩
  refine x_ieq (tgt := 8) (pc := 4) dX1_limit_4 (by decide) (by split <;> omega) (fun c_4 => ?_) (fun c_4 => ?_)
  rotate_left
  · skip
    exact absurd (if_pos (by omega)) c_4
  refine x_aloadn (pc := 8) dX1_limit_8 rfl ?_
  refine x_getR (47) (pc := 9) dX1_limit_9 fl_X1_9 k_46 (hL 46 (by decide) (by decide)) (f_46_0 hF) ?_
  refine x_iloadn (pc := 12) dX1_limit_12 rfl ?_
  refine x_iald (u) (pc := 13) dX1_limit_13 k_47 (hL 47 (by decide) (by decide)) (⟨by omega, by omega, by decide⟩) ?_
  refine x_iloadn (pc := 14) dX1_limit_14 rfl ?_
  refine x_cne (tgt := 40) (pc := 15) dX1_limit_15 (by decide) (by omega) (fun c_15 => ?_) (fun c_15 => ?_)
  · skip
    refine x_aloadn (pc := 40) dX1_limit_40 rfl ?_
    refine x_getR (47) (pc := 41) dX1_limit_41 fl_X1_9 k_46 (hL 46 (by decide) (by decide)) (f_46_0 hF) ?_
    refine x_iloadn (pc := 44) dX1_limit_44 rfl ?_
    refine x_iloadn (pc := 45) dX1_limit_45 rfl ?_
    refine x_iastF (u) (pc := 46) dX1_limit_46 k_47 (hL 47 (by decide) (by decide)) (⟨by omega, by omega, by decide⟩) hF (fun hF => ?_)
    refine x_aloadn (pc := 47) dX1_limit_47 rfl ?_
    refine x_getR (48) (pc := 48) dX1_limit_48 fl_X1_15 k_46 (hL 46 (by decide) (by decide)) (f_46_1 hF) ?_
    refine x_iloadn (pc := 51) dX1_limit_51 rfl ?_
    refine x_iloadn (pc := 52) dX1_limit_52 rfl ?_
    refine x_iastF (u) (pc := 53) dX1_limit_53 k_48 (hL 48 (by decide) (by decide)) (⟨by omega, by omega, by decide⟩) hF (fun hF => ?_)
    refine x_aloadn (pc := 54) dX1_limit_54 rfl ?_
    refine x_getR (49) (pc := 55) dX1_limit_55 fl_X1_18 k_46 (hL 46 (by decide) (by decide)) (f_46_2 hF) ?_
    refine x_iloadn (pc := 58) dX1_limit_58 rfl ?_
    refine x_iload (pc := 59) dX1_limit_59 rfl ?_
    refine x_iastF (u) (pc := 61) dX1_limit_61 k_49 (hL 49 (by decide) (by decide)) (⟨by omega, by omega, by decide⟩) hF (fun hF => ?_)
    refine x_aloadn (pc := 62) dX1_limit_62 rfl ?_
    refine x_iconst (pc := 63) dX1_limit_63 ?_
    refine x_putZF (pc := 64) dX1_limit_64 fp_X1_58 k_46 (hL 46 (by decide) (by decide)) (by omega) hF (fun hF => ?_)
    refine x_rV (pc := 67) dX1_limit_67 rfl ?_
    refine ⟨fin _ (fun q d => ?_) ?_ ?_ ?_, hF, Or.inr ⟨x_up_s, fun j hj => ?_, ?_⟩⟩
    · simp [x_up, d]
    · simp [x_up]
    · simp [x_up]
    · simp [x_up]
    · simp [x_up, hj]
    · exact (((FR.rf.up (by simp)).up (by simp)).up (by simp)).up (by simp)
  · skip
    refine x_aloadn (pc := 18) dX1_limit_18 rfl ?_
    refine x_getR (48) (pc := 19) dX1_limit_19 fl_X1_15 k_46 (hL 46 (by decide) (by decide)) (f_46_1 hF) ?_
    refine x_iloadn (pc := 22) dX1_limit_22 rfl ?_
    refine x_iald (u) (pc := 23) dX1_limit_23 k_48 (hL 48 (by decide) (by decide)) (⟨by omega, by omega, by decide⟩) ?_
    refine x_iloadn (pc := 24) dX1_limit_24 rfl ?_
    refine x_cne (tgt := 40) (pc := 25) dX1_limit_25 (by decide) (by omega) (fun c_25 => ?_) (fun c_25 => ?_)
    · skip
      refine x_aloadn (pc := 40) dX1_limit_40 rfl ?_
      refine x_getR (47) (pc := 41) dX1_limit_41 fl_X1_9 k_46 (hL 46 (by decide) (by decide)) (f_46_0 hF) ?_
      refine x_iloadn (pc := 44) dX1_limit_44 rfl ?_
      refine x_iloadn (pc := 45) dX1_limit_45 rfl ?_
      refine x_iastF (u) (pc := 46) dX1_limit_46 k_47 (hL 47 (by decide) (by decide)) (⟨by omega, by omega, by decide⟩) hF (fun hF => ?_)
      refine x_aloadn (pc := 47) dX1_limit_47 rfl ?_
      refine x_getR (48) (pc := 48) dX1_limit_48 fl_X1_15 k_46 (hL 46 (by decide) (by decide)) (f_46_1 hF) ?_
      refine x_iloadn (pc := 51) dX1_limit_51 rfl ?_
      refine x_iloadn (pc := 52) dX1_limit_52 rfl ?_
      refine x_iastF (u) (pc := 53) dX1_limit_53 k_48 (hL 48 (by decide) (by decide)) (⟨by omega, by omega, by decide⟩) hF (fun hF => ?_)
      refine x_aloadn (pc := 54) dX1_limit_54 rfl ?_
      refine x_getR (49) (pc := 55) dX1_limit_55 fl_X1_18 k_46 (hL 46 (by decide) (by decide)) (f_46_2 hF) ?_
      refine x_iloadn (pc := 58) dX1_limit_58 rfl ?_
      refine x_iload (pc := 59) dX1_limit_59 rfl ?_
      refine x_iastF (u) (pc := 61) dX1_limit_61 k_49 (hL 49 (by decide) (by decide)) (⟨by omega, by omega, by decide⟩) hF (fun hF => ?_)
      refine x_aloadn (pc := 62) dX1_limit_62 rfl ?_
      refine x_iconst (pc := 63) dX1_limit_63 ?_
      refine x_putZF (pc := 64) dX1_limit_64 fp_X1_58 k_46 (hL 46 (by decide) (by decide)) (by omega) hF (fun hF => ?_)
      refine x_rV (pc := 67) dX1_limit_67 rfl ?_
      refine ⟨fin _ (fun q d => ?_) ?_ ?_ ?_, hF, Or.inr ⟨x_up_s, fun j hj => ?_, ?_⟩⟩
      · simp [x_up, d]
      · simp [x_up]
      · simp [x_up]
      · simp [x_up]
      · simp [x_up, hj]
      · exact (((FR.rf.up (by simp)).up (by simp)).up (by simp)).up (by simp)
    · skip
      refine x_aloadn (pc := 28) dX1_limit_28 rfl ?_
      refine x_getR (49) (pc := 29) dX1_limit_29 fl_X1_18 k_46 (hL 46 (by decide) (by decide)) (f_46_2 hF) ?_
      refine x_iloadn (pc := 32) dX1_limit_32 rfl ?_
      refine x_iald (u) (pc := 33) dX1_limit_33 k_49 (hL 49 (by decide) (by decide)) (⟨by omega, by omega, by decide⟩) ?_
      refine x_iload (pc := 34) dX1_limit_34 rfl ?_
      refine x_cne (tgt := 40) (pc := 36) dX1_limit_36 (by decide) (by omega) (fun c_36 => ?_) (fun c_36 => ?_)
      · skip
        refine x_aloadn (pc := 40) dX1_limit_40 rfl ?_
        refine x_getR (47) (pc := 41) dX1_limit_41 fl_X1_9 k_46 (hL 46 (by decide) (by decide)) (f_46_0 hF) ?_
        refine x_iloadn (pc := 44) dX1_limit_44 rfl ?_
        refine x_iloadn (pc := 45) dX1_limit_45 rfl ?_
        refine x_iastF (u) (pc := 46) dX1_limit_46 k_47 (hL 47 (by decide) (by decide)) (⟨by omega, by omega, by decide⟩) hF (fun hF => ?_)
        refine x_aloadn (pc := 47) dX1_limit_47 rfl ?_
        refine x_getR (48) (pc := 48) dX1_limit_48 fl_X1_15 k_46 (hL 46 (by decide) (by decide)) (f_46_1 hF) ?_
        refine x_iloadn (pc := 51) dX1_limit_51 rfl ?_
        refine x_iloadn (pc := 52) dX1_limit_52 rfl ?_
        refine x_iastF (u) (pc := 53) dX1_limit_53 k_48 (hL 48 (by decide) (by decide)) (⟨by omega, by omega, by decide⟩) hF (fun hF => ?_)
        refine x_aloadn (pc := 54) dX1_limit_54 rfl ?_
        refine x_getR (49) (pc := 55) dX1_limit_55 fl_X1_18 k_46 (hL 46 (by decide) (by decide)) (f_46_2 hF) ?_
        refine x_iloadn (pc := 58) dX1_limit_58 rfl ?_
        refine x_iload (pc := 59) dX1_limit_59 rfl ?_
        refine x_iastF (u) (pc := 61) dX1_limit_61 k_49 (hL 49 (by decide) (by decide)) (⟨by omega, by omega, by decide⟩) hF (fun hF => ?_)
        refine x_aloadn (pc := 62) dX1_limit_62 rfl ?_
        refine x_iconst (pc := 63) dX1_limit_63 ?_
        refine x_putZF (pc := 64) dX1_limit_64 fp_X1_58 k_46 (hL 46 (by decide) (by decide)) (by omega) hF (fun hF => ?_)
        refine x_rV (pc := 67) dX1_limit_67 rfl ?_
        refine ⟨fin _ (fun q d => ?_) ?_ ?_ ?_, hF, Or.inr ⟨x_up_s, fun j hj => ?_, ?_⟩⟩
        · simp [x_up, d]
        · simp [x_up]
        · simp [x_up]
        · simp [x_up]
        · simp [x_up, hj]
        · exact (((FR.rf.up (by simp)).up (by simp)).up (by simp)).up (by simp)
      · skip
        refine x_rV (pc := 39) dX1_limit_39 rfl ?_
        exact ⟨fin _ (fun q _ => ⟨rfl, rfl, rfl⟩) (by omega) (by omega) (by omega), hF, Or.inl ⟨rfl, zup_id (by omega), zup_id (by omega), zup_id (by omega)⟩⟩
theorem c_ts_bounds {lo hi mk : Nat → Nat} {u a c e : Int} {L : List Nat} {G : Nat → Nat → Int} (hL : x_SL L) (hF : x_Fin xFL G) (hB : cBd lo hi mk G) (hu : -2147483648 ≤ u ∧ u < 2147483648) (ha : -2147483648 ≤ a ∧ a < 2147483648) (hc : -2147483648 ≤ c ∧ c < 2147483648) (he : -2147483648 ≤ e ∧ e < 2147483648) :
    CM yX11_bounds mX11_bounds 2 0 0 [vR 1, vI u, vI a, vI c, vI e] L G (qI L fun x G' => (¬ (0 ≤ u ∧ u < 4) ∧ x = -2 ∧ G' = G) ∨ ((0 ≤ u ∧ u < 4) ∧ ¬ (0 ≤ a ∧ a ≤ c ∧ c ≤ 8 ∧ 0 ≤ e ∧ e ≤ 7) ∧ x = -3 ∧ G' = G) ∨ ((0 ≤ u ∧ u < 4) ∧ (0 ≤ a ∧ a ≤ c ∧ c ≤ 8 ∧ 0 ≤ e ∧ e ≤ 7) ∧ x = 1 ∧ cBd (zup lo u.toNat a.toNat) (zup hi u.toNat c.toNat) (zup mk u.toNat e.toNat) G' ∧ x_Fin xFL G' ∧ ((G' = G ∧ zup lo u.toNat a.toNat = lo ∧ zup hi u.toNat c.toNat = hi ∧ zup mk u.toNat e.toNat = mk) ∨ (G' 46 13 = 0 ∧ (∀ j, j ≠ 13 → G' 46 j = G 46 j) ∧ FR [46, 47, 48, 49] G G')))) := by
  refine Ct.of_X (μ := mX11_bounds) rfl rfl (by decide) (fun h => by cases h) (Nat.le_of_ble_eq_true rfl) rfl ?_
  refine x_iloadn (pc := 0) dX11_bounds_0 rfl ?_
  refine x_cSI (pc := 1) dX11_bounds_1 lk_X11_105 (c_ts_none (by omega)) (⟨by decide, by decide⟩) (Nat.le_of_ble_eq_true rfl) rfl ?_
  rintro x G' ⟨rfl, rfl⟩
  refine x_ieq (tgt := 10) (pc := 4) dX11_bounds_4 (by decide) (by split <;> omega) (fun c_4 => ?_) (fun c_4 => ?_)
  · skip
    refine x_iloadn (pc := 10) dX11_bounds_10 rfl ?_
    refine x_ilt (tgt := 25) (pc := 11) dX11_bounds_11 (by decide) (by omega) (fun c_11 => ?_) (fun c_11 => ?_)
    · skip
      refine x_bipush (pc := 25) dX11_bounds_25 (by decide) ?_
      refine x_rI (pc := 27) dX11_bounds_27 rfl ?_
      exact Or.inr (Or.inl ⟨by split at c_4 <;> omega, by omega, rfl, rfl⟩)
    · skip
      refine x_iloadn (pc := 14) dX11_bounds_14 rfl ?_
      refine x_bipush (pc := 15) dX11_bounds_15 (by decide) ?_
      refine x_cgt (tgt := 25) (pc := 17) dX11_bounds_17 (by decide) (by omega) (fun c_17 => ?_) (fun c_17 => ?_)
      · skip
        refine x_bipush (pc := 25) dX11_bounds_25 (by decide) ?_
        refine x_rI (pc := 27) dX11_bounds_27 rfl ?_
        exact Or.inr (Or.inl ⟨by split at c_4 <;> omega, by omega, rfl, rfl⟩)
      · skip
        refine x_iloadn (pc := 20) dX11_bounds_20 rfl ?_
        refine x_iloadn (pc := 21) dX11_bounds_21 rfl ?_
        refine x_cle (tgt := 28) (pc := 22) dX11_bounds_22 (by decide) (by omega) (fun c_22 => ?_) (fun c_22 => ?_)
        · skip
          refine x_iload (pc := 28) dX11_bounds_28 rfl ?_
          refine x_ilt (tgt := 40) (pc := 30) dX11_bounds_30 (by decide) (by omega) (fun c_30 => ?_) (fun c_30 => ?_)
          · skip
            refine x_bipush (pc := 40) dX11_bounds_40 (by decide) ?_
            refine x_rI (pc := 42) dX11_bounds_42 rfl ?_
            exact Or.inr (Or.inl ⟨by split at c_4 <;> omega, by omega, rfl, rfl⟩)
          · skip
            refine x_iload (pc := 33) dX11_bounds_33 rfl ?_
            refine x_bipush (pc := 35) dX11_bounds_35 (by decide) ?_
            refine x_cle (tgt := 43) (pc := 37) dX11_bounds_37 (by decide) (by omega) (fun c_37 => ?_) (fun c_37 => ?_)
            · skip
              have g0 : 0 ≤ u ∧ u < 4 := by split at c_4 <;> omega
              obtain ⟨u, rfl⟩ : ∃ j : Nat, u = j := ⟨u.toNat, by omega⟩
              obtain ⟨a, rfl⟩ : ∃ j : Nat, a = j := ⟨a.toNat, by omega⟩
              obtain ⟨c, rfl⟩ : ∃ j : Nat, c = j := ⟨c.toNat, by omega⟩
              obtain ⟨e, rfl⟩ : ∃ j : Nat, e = j := ⟨e.toNat, by omega⟩
              refine x_aloadn (pc := 43) dX11_bounds_43 rfl ?_
              refine x_getR (46) (pc := 44) dX11_bounds_44 fl_X11_26 k_1 (hL 1 (by decide) (by decide)) (f_1_2 hF) ?_
              refine x_iloadn (pc := 47) dX11_bounds_47 rfl ?_
              refine x_iloadn (pc := 48) dX11_bounds_48 rfl ?_
              refine x_iloadn (pc := 49) dX11_bounds_49 rfl ?_
              refine x_iload (pc := 50) dX11_bounds_50 rfl ?_
              refine x_cVV (pc := 52) dX11_bounds_52 lk_X11_108 (c_an_limit hL hF hB (by omega) (by omega) (by omega) (by omega)) k_46 ⟨by decide, rfl⟩ (hL 46 (by decide) (by decide)) (⟨by decide, by decide⟩) (Nat.le_of_ble_eq_true rfl) rfl ?_
              rintro G' hG
              refine x_iconst (pc := 55) dX11_bounds_55 ?_
              refine x_rI (pc := 56) dX11_bounds_56 rfl ?_
              exact Or.inr (Or.inr ⟨g0, by omega, rfl, by rw [Int.toNat_natCast, Int.toNat_natCast, Int.toNat_natCast, Int.toNat_natCast]; exact hG⟩)
            · skip
              refine x_bipush (pc := 40) dX11_bounds_40 (by decide) ?_
              refine x_rI (pc := 42) dX11_bounds_42 rfl ?_
              exact Or.inr (Or.inl ⟨by split at c_4 <;> omega, by omega, rfl, rfl⟩)
        · skip
          refine x_bipush (pc := 25) dX11_bounds_25 (by decide) ?_
          refine x_rI (pc := 27) dX11_bounds_27 rfl ?_
          exact Or.inr (Or.inl ⟨by split at c_4 <;> omega, by omega, rfl, rfl⟩)
  · skip
    refine x_bipush (pc := 7) dX11_bounds_7 (by decide) ?_
    refine x_rI (pc := 9) dX11_bounds_9 rfl ?_
    exact Or.inl ⟨by split at c_4 <;> omega, rfl, rfl⟩
theorem c_an_hear {tw : Nat → Int} {tn : Nat → Nat} {u n : Nat} {w : Int} {L : List Nat} {G : Nat → Nat → Int} (hL : x_SL L) (hF : x_Fin xFL G) (hB : cTd tw tn G) (hu : u < 4) (hw : -2147483648 ≤ w ∧ w < 2147483648) (hn : n ≤ 8) (hg : zgood w n) :
    CM yX1_hear mX1_hear 1 0 0 [vR 46, vI u, vI w, vI n] L G (qV L fun G' => cTd (zup tw u w) (zup tn u n) G' ∧ FR [50, 51] G G' ∧ x_Fin xFL G') := by
  refine Ct.of_X (μ := mX1_hear) rfl rfl (by decide) (fun h => by cases h) (Nat.le_of_ble_eq_true rfl) rfl ?_
  refine x_iloadn (pc := 0) dX1_hear_0 rfl ?_
  refine x_cSNI (pc := 1) dX1_hear_1 lk_X1_68 (c_ts_none (by omega)) (⟨by decide, by decide⟩) (Nat.le_of_ble_eq_true rfl) rfl ?_
  rintro x G' ⟨rfl, rfl⟩
  refine x_ieq (tgt := 8) (pc := 4) dX1_hear_4 (by decide) (by split <;> omega) (fun c_4 => ?_) (fun c_4 => ?_)
  rotate_left
  · skip
    exact absurd (if_pos (by omega)) c_4
  refine x_aloadn (pc := 8) dX1_hear_8 rfl ?_
  refine x_getR (50) (pc := 9) dX1_hear_9 fl_X1_21 k_46 (hL 46 (by decide) (by decide)) (f_46_3 hF) ?_
  refine x_iloadn (pc := 12) dX1_hear_12 rfl ?_
  refine x_iloadn (pc := 13) dX1_hear_13 rfl ?_
  refine x_iastF (u) (pc := 14) dX1_hear_14 k_50 (hL 50 (by decide) (by decide)) (⟨by omega, by omega, by decide⟩) hF (fun hF => ?_)
  refine x_aloadn (pc := 15) dX1_hear_15 rfl ?_
  refine x_getR (51) (pc := 16) dX1_hear_16 fl_X1_24 k_46 (hL 46 (by decide) (by decide)) (f_46_4 hF) ?_
  refine x_iloadn (pc := 19) dX1_hear_19 rfl ?_
  refine x_iloadn (pc := 20) dX1_hear_20 rfl ?_
  refine x_iastF (u) (pc := 21) dX1_hear_21 k_51 (hL 51 (by decide) (by decide)) (⟨by omega, by omega, by decide⟩) hF (fun hF => ?_)
  refine x_rV (pc := 22) dX1_hear_22 rfl ?_
  refine ⟨fun q hq => ?_, (FR.rf.up (by simp)).up (by simp), hF⟩
  by_cases k : q = u
  · subst k
    rw [zup_s, zup_s]; exact ⟨by simp [x_up], by simp [x_up], hn, hw, hg⟩
  · rw [zup_n k, zup_n k]; simp [x_up, k]; exact hB q hq
theorem c_ts_tell {tw : Nat → Int} {tn : Nat → Nat} {u w n : Int} {L : List Nat} {G : Nat → Nat → Int} (hL : x_SL L) (hF : x_Fin xFL G) (hB : cTd tw tn G) (hu : -2147483648 ≤ u ∧ u < 2147483648) (hw : -2147483648 ≤ w ∧ w < 2147483648) (hn : -2147483648 ≤ n ∧ n < 2147483648) :
    CM yX11_tell mX11_tell 2 0 0 [vR 1, vI u, vI w, vI n] L G (qI L fun x G' => (¬ (0 ≤ u ∧ u < 4) ∧ x = -2 ∧ G' = G) ∨ ((0 ≤ u ∧ u < 4) ∧ ¬ (0 ≤ n ∧ n ≤ 8 ∧ zgood w n.toNat) ∧ x = -3 ∧ G' = G) ∨ ((0 ≤ u ∧ u < 4) ∧ (0 ≤ n ∧ n ≤ 8 ∧ zgood w n.toNat) ∧ x = 1 ∧ cTd (zup tw u.toNat w) (zup tn u.toNat n.toNat) G' ∧ FR [50, 51] G G' ∧ x_Fin xFL G')) := by
  refine Ct.of_X (μ := mX11_tell) rfl rfl (by decide) (fun h => by cases h) (Nat.le_of_ble_eq_true rfl) rfl ?_
  refine x_iloadn (pc := 0) dX11_tell_0 rfl ?_
  refine x_cSI (pc := 1) dX11_tell_1 lk_X11_105 (c_ts_none (by omega)) (⟨by decide, by decide⟩) (Nat.le_of_ble_eq_true rfl) rfl ?_
  rintro x G' ⟨rfl, rfl⟩
  refine x_ieq (tgt := 10) (pc := 4) dX11_tell_4 (by decide) (by split <;> omega) (fun c_4 => ?_) (fun c_4 => ?_)
  · skip
    refine x_iloadn (pc := 10) dX11_tell_10 rfl ?_
    refine x_ilt (tgt := 29) (pc := 11) dX11_tell_11 (by decide) (by omega) (fun c_11 => ?_) (fun c_11 => ?_)
    · skip
      refine x_bipush (pc := 29) dX11_tell_29 (by decide) ?_
      refine x_rI (pc := 31) dX11_tell_31 rfl ?_
      refine Or.inr (Or.inl ⟨by split at c_4 <;> omega, ?_, rfl, rfl⟩)
      intro q
      first | omega | (rcases hx with hx | hx; omega; exact hx.2 q.2.2)
    · skip
      refine x_iloadn (pc := 14) dX11_tell_14 rfl ?_
      refine x_bipush (pc := 15) dX11_tell_15 (by decide) ?_
      refine x_cgt (tgt := 29) (pc := 17) dX11_tell_17 (by decide) (by omega) (fun c_17 => ?_) (fun c_17 => ?_)
      · skip
        refine x_bipush (pc := 29) dX11_tell_29 (by decide) ?_
        refine x_rI (pc := 31) dX11_tell_31 rfl ?_
        refine Or.inr (Or.inl ⟨by split at c_4 <;> omega, ?_, rfl, rfl⟩)
        intro q
        first | omega | (rcases hx with hx | hx; omega; exact hx.2 q.2.2)
      · skip
        refine x_iloadn (pc := 20) dX11_tell_20 rfl ?_
        refine x_i2l (pc := 21) dX11_tell_21 (by omega) ?_
        refine x_iloadn (pc := 22) dX11_tell_22 rfl ?_
        refine x_cSI (pc := 23) dX11_tell_23 lk_X11_128 (c_ts_hasNo (w := w) (by omega) (by omega)) (⟨by decide, by decide⟩) (Nat.le_of_ble_eq_true rfl) rfl ?_
        rintro x G' ⟨hx, hG⟩
        subst hG
        refine x_ieq (tgt := 32) (pc := 26) dX11_tell_26 (by decide) (by omega) (fun c_26 => ?_) (fun c_26 => ?_)
        · skip
          have g0 : 0 ≤ u ∧ u < 4 := by split at c_4 <;> omega
          have g1 : zgood w n.toNat := by rcases hx with hx | hx; exact hx.2; omega
          obtain ⟨u, rfl⟩ : ∃ j : Nat, u = j := ⟨u.toNat, by omega⟩
          obtain ⟨n, rfl⟩ : ∃ j : Nat, n = j := ⟨n.toNat, by omega⟩
          refine x_aloadn (pc := 32) dX11_tell_32 rfl ?_
          refine x_getR (46) (pc := 33) dX11_tell_33 fl_X11_26 k_1 (hL 1 (by decide) (by decide)) (f_1_2 hF) ?_
          refine x_iloadn (pc := 36) dX11_tell_36 rfl ?_
          refine x_iloadn (pc := 37) dX11_tell_37 rfl ?_
          refine x_iloadn (pc := 38) dX11_tell_38 rfl ?_
          refine x_cVV (pc := 39) dX11_tell_39 lk_X11_132 (c_an_hear hL hF hB (by omega) hw (by omega) (by rw [Int.toNat_natCast] at g1; exact g1)) k_46 ⟨by decide, rfl⟩ (hL 46 (by decide) (by decide)) (⟨by decide, by decide⟩) (Nat.le_of_ble_eq_true rfl) rfl ?_
          rintro G' hG
          refine x_iconst (pc := 42) dX11_tell_42 ?_
          refine x_rI (pc := 43) dX11_tell_43 rfl ?_
          exact Or.inr (Or.inr ⟨g0, ⟨by omega, by omega, g1⟩, rfl, by rw [Int.toNat_natCast, Int.toNat_natCast]; exact hG⟩)
        · skip
          refine x_bipush (pc := 29) dX11_tell_29 (by decide) ?_
          refine x_rI (pc := 31) dX11_tell_31 rfl ?_
          refine Or.inr (Or.inl ⟨by split at c_4 <;> omega, ?_, rfl, rfl⟩)
          intro q
          first | omega | (rcases hx with hx | hx; omega; exact hx.2 q.2.2)
  · skip
    refine x_bipush (pc := 7) dX11_tell_7 (by decide) ?_
    refine x_rI (pc := 9) dX11_tell_9 rfl ?_
    exact Or.inl ⟨by split at c_4 <;> omega, rfl, rfl⟩
/-! which unknowns are in the equations -/
theorem zub_pair {S : Nat → Nat} {I : Nat → Nat → Nat} {m u : Nat} : zub S I (2 * m) u = 1 ↔ ∃ e, e < m ∧ 0 < zct I (2 * e) u (S (2 * e)) + zct I (2 * e + 1) u (S (2 * e + 1)) := by
  rw [zub_iff]
  constructor
  · rintro ⟨q, h1, h2⟩
    refine ⟨q / 2, by omega, ?_⟩
    rcases (show q = 2 * (q / 2) ∨ q = 2 * (q / 2) + 1 by omega) with e | e
    · rw [← e]; omega
    · rw [← e]; omega
  · rintro ⟨e, h1, h2⟩
    by_cases c : 0 < zct I (2 * e) u (S (2 * e))
    · exact ⟨2 * e, by omega, c⟩
    · exact ⟨2 * e + 1, by omega, by omega⟩
theorem l_Eq_hasU {m u : Nat} {S : Nat → Nat} {I : Nat → Nat → Nat} {L : List Nat} {G : Nat → Nat → Int} (hL : x_SL L) (hF : x_Fin xFL G) (hE : cEq m S I G) (hu : u < 4) :
    ∀ (k i : Nat), i + k = m → (∀ e, e < i → zct I (2 * e) u (S (2 * e)) + zct I (2 * e + 1) u (S (2 * e + 1)) = 0) → X mX3_hasUnknown 3 0 0 (qI L fun x G' => x = zub S I (2 * m) u ∧ G' = G) 2 [some (vR 4), some (vI u), some (vI i)] [] L G 0 0 := by
  obtain ⟨h1, h2, h3⟩ := id hE
  have hlt := zub_lt S I (2 * m) u
  intro k
  induction k with
  | zero =>
    intro i hi h0
    have hz : zub S I (2 * m) u ≠ 1 := fun q => by
      obtain ⟨e, e1, e2⟩ := zub_pair.mp q
      have := h0 e (by omega)
      omega
    refine x_iloadn (pc := 2) dX3_hasUnknown_2 rfl ?_
    refine x_aloadn (pc := 3) dX3_hasUnknown_3 rfl ?_
    refine x_getI (pc := 4) dX3_hasUnknown_4 fl_X3_17 k_4 (hL 4 (by decide) (by decide)) ?_
    refine x_cge (tgt := 27) (pc := 7) dX3_hasUnknown_7 (by decide) (by omega) (fun c_7 => ?_) (fun c_7 => ?_)
    rotate_left
    · skip
      exact absurd c_7 (by omega)
    refine x_iconst (pc := 27) dX3_hasUnknown_27 ?_
    refine x_rZ (pc := 28) dX3_hasUnknown_28 rfl (by omega) ?_
    exact ⟨by omega, rfl⟩
  | succ k ih =>
    intro i hi h0
    have hb := zct_le (I := I) (q := 2 * i) (u := u) (S (2 * i))
    have hb2 := zct_le (I := I) (q := 2 * i + 1) (u := u) (S (2 * i + 1))
    have hb3 := (h3 (2 * i) (by omega)).2.1
    have hb4 := (h3 (2 * i + 1) (by omega)).2.1
    refine x_iloadn (pc := 2) dX3_hasUnknown_2 rfl ?_
    refine x_aloadn (pc := 3) dX3_hasUnknown_3 rfl ?_
    refine x_getI (pc := 4) dX3_hasUnknown_4 fl_X3_17 k_4 (hL 4 (by decide) (by decide)) ?_
    refine x_cge (tgt := 27) (pc := 7) dX3_hasUnknown_7 (by decide) (by omega) (fun c_7 => ?_) (fun c_7 => ?_)
    · skip
      exact absurd c_7 (by omega)
    refine x_aloadn (pc := 10) dX3_hasUnknown_10 rfl ?_
    refine x_iloadn (pc := 11) dX3_hasUnknown_11 rfl ?_
    refine x_iloadn (pc := 12) dX3_hasUnknown_12 rfl ?_
    refine x_cVI (pc := 13) dX3_hasUnknown_13 lk_X3_40 (c_Eq_times hL hF hE (by omega) hu) k_4 ⟨by decide, rfl⟩ (hL 4 (by decide) (by decide)) (⟨by decide, by decide⟩) (Nat.le_of_ble_eq_true rfl) rfl ?_
    rintro x G' ⟨rfl, rfl⟩
    refine x_ile (tgt := 21) (pc := 16) dX3_hasUnknown_16 (by decide) (by omega) (fun c_16 => ?_) (fun c_16 => ?_)
    · skip
      refine x_iinc (pc := 21) dX3_hasUnknown_21 rfl (by decide) rfl ?_
      refine x_goto (tgt := 2) (pc := 24) dX3_hasUnknown_24 (by decide) ?_
      refine ih (i + 1) (by omega) (fun e he => ?_)
      by_cases c : e = i
      · subst c; omega
      · exact h0 e (by omega)
    · skip
      refine x_iconst (pc := 19) dX3_hasUnknown_19 ?_
      refine x_rZ (pc := 20) dX3_hasUnknown_20 rfl (by omega) ?_
      exact ⟨by have := zub_pair.mpr (⟨i, by omega, by omega⟩ : ∃ e, e < m ∧ 0 < zct I (2 * e) u (S (2 * e)) + zct I (2 * e + 1) u (S (2 * e + 1))); omega, rfl⟩
theorem c_Eq_hasU {m u : Nat} {S : Nat → Nat} {I : Nat → Nat → Nat} {L : List Nat} {G : Nat → Nat → Int} (hL : x_SL L) (hF : x_Fin xFL G) (hE : cEq m S I G) (hu : u < 4) :
    CM yX3_hasUnknown mX3_hasUnknown 3 0 0 [vR 4, vI u] L G (qI L fun x G' => x = zub S I (2 * m) u ∧ G' = G) := by
  refine Ct.of_X (μ := mX3_hasUnknown) rfl rfl (by decide) (fun h => by cases h) (Nat.le_of_ble_eq_true rfl) rfl ?_
  refine x_iconst (pc := 0) dX3_hasUnknown_0 ?_
  refine x_istoren (pc := 1) dX3_hasUnknown_1 rfl (by decide) rfl ?_
  exact l_Eq_hasU hL hF hE hu m 0 (by omega) (fun e he => absurd he (Nat.not_lt_zero e))

