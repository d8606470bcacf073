/-! the reference's words -/
def mDk (dn : Nat → Nat) (dl : Nat → Nat → Nat) (G : Nat → Nat → Int) : Prop := ∀ i, i < 4 → G 137 i = dn i ∧ dn i ≤ 30 ∧ ∀ j, j < dn i → G 136 (30 * i + j) = dl i j ∧ dl i j < 3
theorem c_mo_isWord {a : Int} {L : List Nat} {G : Nat → Nat → Int} (ha : -2147483648 ≤ a ∧ a < 2147483648) :
    CM yX12_isWord mX12_isWord 1 0 0 [vI a] L G (qI L fun x G' => x = (if 0 ≤ a ∧ a < 4 then 1 else 0) ∧ G' = G) := by
  refine Ct.of_X (μ := mX12_isWord) rfl rfl (by decide) (fun h => by cases h) (Nat.le_of_ble_eq_true rfl) rfl ?_
  refine x_iloadn (pc := 0) dX12_isWord_0 rfl ?_
  refine x_i2l (pc := 1) dX12_isWord_1 (by omega) ?_
  refine x_lconst (x := 0) (pc := 2) dX12_isWord_2 (by decide) ?_
  refine x_ldc2 (pc := 3) dX12_isWord_3 co_X12_129 ?_
  refine x_cSI (pc := 6) dX12_isWord_6 lk_X12_131 (c_mo_in (by omega)) (⟨by decide, by decide⟩) (Nat.le_of_ble_eq_true rfl) rfl ?_
  rintro x G' ⟨rfl, rfl⟩
  refine x_rZ (pc := 9) dX12_isWord_9 rfl (by split <;> omega) ?_
  exact ⟨by split <;> split <;> omega, rfl⟩
theorem l_mo_per {dn : Nat → Nat} {dl : Nat → Nat → Nat} {i p : Nat} {L : List Nat} {G : Nat → Nat → Int} (hL : x_SL L) (hF : x_Fin xFL G) (hD : mDk dn dl G) (hi : i < 4) (hp : p ≤ 31) :
    ∀ (k t : Nat) (z : Bool) (F : Int), t + k = dn i - p → zall (fun j => dl i j == dl i (j + p)) t = z → F = (if z = true then 1 else 0) → X mX12_isPeriod 0 0 0 (qI L fun x G' => x = (if zper (dl i) (dn i) p = true then 1 else 0) ∧ G' = G) 5 [some (vR 127), some (vI i), some (vI p), some (vI F), some (vI ((p + t : Nat) : Int))] [] L G 0 0 := by
  obtain ⟨d1, d2, d3⟩ := hD i hi
  intro k
  induction k with
  | zero =>
    intro t z F ht hz hFF
    refine x_iload (pc := 5) dX12_isPeriod_5 rfl ?_
    refine x_aloadn (pc := 7) dX12_isPeriod_7 rfl ?_
    refine x_getR (137) (pc := 8) dX12_isPeriod_8 fl_X12_37 k_127 (hL 127 (by decide) (by decide)) (f_127_12 hF) ?_
    refine x_iloadn (pc := 11) dX12_isPeriod_11 rfl ?_
    refine x_iald (i) (pc := 12) dX12_isPeriod_12 k_137 (hL 137 (by decide) (by decide)) (⟨by omega, by omega, by decide⟩) ?_
    refine x_cge (tgt := 61) (pc := 13) dX12_isPeriod_13 (by decide) (by omega) (fun c_13 => ?_) (fun c_13 => ?_)
    rotate_left
    · skip
      exact absurd c_13 (by omega)
    refine x_iloadn (pc := 61) dX12_isPeriod_61 rfl ?_
    refine x_rZ (pc := 62) dX12_isPeriod_62 rfl (by rw [hFF]; split <;> omega) ?_
    refine ⟨?_, rfl⟩
    unfold zper
    rw [show dn i - p = t by omega, hz]; exact hFF
  | succ k ih =>
    intro t z F ht hz hFF
    obtain ⟨a1, a2⟩ := d3 (t + p) (by omega)
    obtain ⟨b1, b2⟩ := d3 t (by omega)
    cases z with
    | false =>
      have hFF : F = 0 := hFF
      subst hFF
      refine x_iload (pc := 5) dX12_isPeriod_5 rfl ?_
      refine x_aloadn (pc := 7) dX12_isPeriod_7 rfl ?_
      refine x_getR (137) (pc := 8) dX12_isPeriod_8 fl_X12_37 k_127 (hL 127 (by decide) (by decide)) (f_127_12 hF) ?_
      refine x_iloadn (pc := 11) dX12_isPeriod_11 rfl ?_
      refine x_iald (i) (pc := 12) dX12_isPeriod_12 k_137 (hL 137 (by decide) (by decide)) (⟨by omega, by omega, by decide⟩) ?_
      refine x_cge (tgt := 61) (pc := 13) dX12_isPeriod_13 (by decide) (by omega) (fun c_13 => ?_) (fun c_13 => ?_)
      · skip
        exact absurd c_13 (by omega)
      refine x_iloadn (pc := 16) dX12_isPeriod_16 rfl ?_
      refine x_ieq (tgt := 53) (pc := 17) dX12_isPeriod_17 (by decide) (by omega) (fun c_17 => ?_) (fun c_17 => ?_)
      rotate_left
      · skip
        exact absurd rfl c_17
      refine x_iconst (pc := 53) dX12_isPeriod_53 ?_
      refine x_istoren (pc := 54) dX12_isPeriod_54 rfl (by decide) rfl ?_
      refine x_iinc (pc := 55) dX12_isPeriod_55 rfl (by decide) rfl ?_
      refine x_goto (tgt := 5) (pc := 58) dX12_isPeriod_58 (by decide) ?_
      exact ih (t + 1) false _ (by omega) (by rw [zall, hz]; rfl) rfl
    | true =>
      have hFF : F = 1 := hFF
      subst hFF
      refine x_iload (pc := 5) dX12_isPeriod_5 rfl ?_
      refine x_aloadn (pc := 7) dX12_isPeriod_7 rfl ?_
      refine x_getR (137) (pc := 8) dX12_isPeriod_8 fl_X12_37 k_127 (hL 127 (by decide) (by decide)) (f_127_12 hF) ?_
      refine x_iloadn (pc := 11) dX12_isPeriod_11 rfl ?_
      refine x_iald (i) (pc := 12) dX12_isPeriod_12 k_137 (hL 137 (by decide) (by decide)) (⟨by omega, by omega, by decide⟩) ?_
      refine x_cge (tgt := 61) (pc := 13) dX12_isPeriod_13 (by decide) (by omega) (fun c_13 => ?_) (fun c_13 => ?_)
      · skip
        exact absurd c_13 (by omega)
      refine x_iloadn (pc := 16) dX12_isPeriod_16 rfl ?_
      refine x_ieq (tgt := 53) (pc := 17) dX12_isPeriod_17 (by decide) (by omega) (fun c_17 => ?_) (fun c_17 => ?_)
      · skip
        exact absurd c_17 (by decide)
      refine x_aloadn (pc := 20) dX12_isPeriod_20 rfl ?_
      refine x_getR (136) (pc := 21) dX12_isPeriod_21 fl_X12_34 k_127 (hL 127 (by decide) (by decide)) (f_127_11 hF) ?_
      refine x_bipush (pc := 24) dX12_isPeriod_24 (by decide) ?_
      refine x_iloadn (pc := 26) dX12_isPeriod_26 rfl ?_
      refine x_imul (pc := 27) dX12_isPeriod_27 ?_
      refine x_iload (pc := 28) dX12_isPeriod_28 rfl ?_
      refine x_iadd (pc := 30) dX12_isPeriod_30 ?_
      refine x_iald (30 * i + (t + p)) (pc := 31) dX12_isPeriod_31 k_136 (hL 136 (by decide) (by decide)) (⟨by omega, by omega, by decide⟩) ?_
      rw [a1]
      refine x_aloadn (pc := 32) dX12_isPeriod_32 rfl ?_
      refine x_getR (136) (pc := 33) dX12_isPeriod_33 fl_X12_34 k_127 (hL 127 (by decide) (by decide)) (f_127_11 hF) ?_
      refine x_bipush (pc := 36) dX12_isPeriod_36 (by decide) ?_
      refine x_iloadn (pc := 38) dX12_isPeriod_38 rfl ?_
      refine x_imul (pc := 39) dX12_isPeriod_39 ?_
      refine x_iload (pc := 40) dX12_isPeriod_40 rfl ?_
      refine x_iadd (pc := 42) dX12_isPeriod_42 ?_
      refine x_iloadn (pc := 43) dX12_isPeriod_43 rfl ?_
      refine x_isub (pc := 44) dX12_isPeriod_44 ?_
      refine x_iald (30 * i + t) (pc := 45) dX12_isPeriod_45 k_136 (hL 136 (by decide) (by decide)) (⟨by omega, by omega, by decide⟩) ?_
      rw [b1]
      refine x_cne (tgt := 53) (pc := 46) dX12_isPeriod_46 (by decide) (by omega) (fun c_46 => ?_) (fun c_46 => ?_)
      · skip
        refine x_iconst (pc := 53) dX12_isPeriod_53 ?_
        refine x_istoren (pc := 54) dX12_isPeriod_54 rfl (by decide) rfl ?_
        refine x_iinc (pc := 55) dX12_isPeriod_55 rfl (by decide) rfl ?_
        refine x_goto (tgt := 5) (pc := 58) dX12_isPeriod_58 (by decide) ?_
        first
        | exact ih (t + 1) true _ (by omega) (by rw [zall, hz, Bool.true_and]; exact beq_iff_eq.mpr (by omega)) rfl
        | exact ih (t + 1) false _ (by omega) (by rw [zall, hz, Bool.true_and]; exact beq_eq_false_iff_ne.mpr (by omega)) rfl
      · skip
        refine x_iconst (pc := 49) dX12_isPeriod_49 ?_
        refine x_goto (tgt := 54) (pc := 50) dX12_isPeriod_50 (by decide) ?_
        refine x_istoren (pc := 54) dX12_isPeriod_54 rfl (by decide) rfl ?_
        refine x_iinc (pc := 55) dX12_isPeriod_55 rfl (by decide) rfl ?_
        refine x_goto (tgt := 5) (pc := 58) dX12_isPeriod_58 (by decide) ?_
        first
        | exact ih (t + 1) true _ (by omega) (by rw [zall, hz, Bool.true_and]; exact beq_iff_eq.mpr (by omega)) rfl
        | exact ih (t + 1) false _ (by omega) (by rw [zall, hz, Bool.true_and]; exact beq_eq_false_iff_ne.mpr (by omega)) rfl
theorem c_mo_per {dn : Nat → Nat} {dl : Nat → Nat → Nat} {i p : Nat} {L : List Nat} {G : Nat → Nat → Int} (hL : x_SL L) (hF : x_Fin xFL G) (hD : mDk dn dl G) (hi : i < 4) (hp : p ≤ 31) :
    CM yX12_isPeriod mX12_isPeriod 0 0 0 [vR 127, vI i, vI p] L G (qI L fun x G' => x = (if zper (dl i) (dn i) p = true then 1 else 0) ∧ G' = G) := by
  refine Ct.of_X (μ := mX12_isPeriod) rfl rfl (by decide) (fun h => by cases h) (Nat.le_of_ble_eq_true rfl) rfl ?_
  refine x_iconst (pc := 0) dX12_isPeriod_0 ?_
  refine x_istoren (pc := 1) dX12_isPeriod_1 rfl (by decide) rfl ?_
  refine x_iloadn (pc := 2) dX12_isPeriod_2 rfl ?_
  refine x_istore (pc := 3) dX12_isPeriod_3 (by decide) rfl ?_
  exact l_mo_per hL hF hD hi hp (dn i - p) 0 true 1 (by omega) rfl rfl
theorem l_mo_lp {dn : Nat → Nat} {dl : Nat → Nat → Nat} {i : Nat} {b : Int} {L : List Nat} {G : Nat → Nat → Int} (hL : x_SL L) (hF : x_Fin xFL G) (hD : mDk dn dl G) (hi : i < 4) (hb : b = 0 ∨ b = 1) (g : Nat → Bool) (hg : ∀ p, g p = true ↔ zper (dl i) (dn i) p = true ∧ (b = 1 → dn i % p = 0)) (hgn : g (dn i) = true) :
    ∀ (k p z : Nat), p + k = dn i + 1 → 1 ≤ p → p ≤ dn i → zfnd g k p = z → X mX12_leastPeriod 1 0 0 (qI L fun x G' => x = z ∧ G' = G) 15 [some (vR 127), some (vI i), some (vI b), some (vI p)] [] L G 0 0 := by
  obtain ⟨d1, d2, d3⟩ := hD i hi
  intro k
  induction k with
  | zero => intro p z hp h1 h2 hz; omega
  | succ k ih =>
    intro p z hp h1 h2 hz
    rw [zfnd] at hz
    have hml : dn i % p ≤ dn i := Nat.mod_le _ _
    have yes : g p = true → p = z := fun q => by rw [if_pos q] at hz; exact hz
    have no : ¬ g p = true → X mX12_leastPeriod 1 0 0 (qI L fun x G' => x = z ∧ G' = G) 43 [some (vR 127), some (vI i), some (vI b), some (vI p)] [] L G 0 0 := by
      intro q
      rw [if_neg q] at hz
      have hpn : p ≠ dn i := fun e => q (by rw [e]; exact hgn)
      refine x_iinc (pc := 43) dX12_leastPeriod_43 rfl (by decide) rfl ?_
      refine x_goto (tgt := 15) (pc := 46) dX12_leastPeriod_46 (by decide) ?_
      exact ih (p + 1) z (by omega) (by omega) (by omega) hz
    by_cases hq : zper (dl i) (dn i) p = true
    · skip
      refine x_iloadn (pc := 15) dX12_leastPeriod_15 rfl ?_
      refine x_ile (tgt := 49) (pc := 16) dX12_leastPeriod_16 (by decide) (by omega) (fun c_16 => ?_) (fun c_16 => ?_)
      · skip
        exact absurd c_16 (by omega)
      refine x_aloadn (pc := 19) dX12_leastPeriod_19 rfl ?_
      refine x_iloadn (pc := 20) dX12_leastPeriod_20 rfl ?_
      refine x_iloadn (pc := 21) dX12_leastPeriod_21 rfl ?_
      refine x_cVI (pc := 22) dX12_leastPeriod_22 lk_X12_291 (c_mo_per hL hF hD hi (by omega)) k_127 ⟨by decide, rfl⟩ (hL 127 (by decide) (by decide)) (⟨by decide, by decide⟩) (Nat.le_of_ble_eq_true rfl) rfl ?_
      rintro x G' ⟨hx, hG⟩
      subst hG
      rw [if_pos hq] at hx
      subst hx
      refine x_ieq (tgt := 43) (pc := 25) dX12_leastPeriod_25 (by decide) (by omega) (fun c_25 => ?_) (fun c_25 => ?_)
      · skip
        exact absurd c_25 (by decide)
      refine x_iloadn (pc := 28) dX12_leastPeriod_28 rfl ?_
      refine x_ieq (tgt := 49) (pc := 29) dX12_leastPeriod_29 (by decide) (by omega) (fun c_29 => ?_) (fun c_29 => ?_)
      · skip
        refine x_iloadn (pc := 49) dX12_leastPeriod_49 rfl ?_
        refine x_rI (pc := 50) dX12_leastPeriod_50 rfl ?_
        exact ⟨by have := yes ((hg p).mpr ⟨hq, fun _ => by omega⟩); omega, rfl⟩
      · skip
        refine x_aloadn (pc := 32) dX12_leastPeriod_32 rfl ?_
        refine x_getR (137) (pc := 33) dX12_leastPeriod_33 fl_X12_37 k_127 (hL 127 (by decide) (by decide)) (f_127_12 hF) ?_
        refine x_iloadn (pc := 36) dX12_leastPeriod_36 rfl ?_
        refine x_iald (i) (pc := 37) dX12_leastPeriod_37 k_137 (hL 137 (by decide) (by decide)) (⟨by omega, by omega, by decide⟩) ?_
        rw [d1]
        refine x_iloadn (pc := 38) dX12_leastPeriod_38 rfl ?_
        refine x_irem (pc := 39) dX12_leastPeriod_39 (by omega) ?_
        rw [← Int.natCast_emod]
        refine x_ieq (tgt := 49) (pc := 40) dX12_leastPeriod_40 (by decide) (by omega) (fun c_40 => ?_) (fun c_40 => ?_)
        · skip
          refine x_iloadn (pc := 49) dX12_leastPeriod_49 rfl ?_
          refine x_rI (pc := 50) dX12_leastPeriod_50 rfl ?_
          exact ⟨by have := yes ((hg p).mpr ⟨hq, fun _ => by omega⟩); omega, rfl⟩
        · skip
          exact no (fun q => by have := ((hg p).mp q).2 (by omega); omega)
    · skip
      refine x_iloadn (pc := 15) dX12_leastPeriod_15 rfl ?_
      refine x_ile (tgt := 49) (pc := 16) dX12_leastPeriod_16 (by decide) (by omega) (fun c_16 => ?_) (fun c_16 => ?_)
      · skip
        exact absurd c_16 (by omega)
      refine x_aloadn (pc := 19) dX12_leastPeriod_19 rfl ?_
      refine x_iloadn (pc := 20) dX12_leastPeriod_20 rfl ?_
      refine x_iloadn (pc := 21) dX12_leastPeriod_21 rfl ?_
      refine x_cVI (pc := 22) dX12_leastPeriod_22 lk_X12_291 (c_mo_per hL hF hD hi (by omega)) k_127 ⟨by decide, rfl⟩ (hL 127 (by decide) (by decide)) (⟨by decide, by decide⟩) (Nat.le_of_ble_eq_true rfl) rfl ?_
      rintro x G' ⟨hx, hG⟩
      subst hG
      rw [if_neg hq] at hx
      subst hx
      refine x_ieq (tgt := 43) (pc := 25) dX12_leastPeriod_25 (by decide) (by omega) (fun c_25 => ?_) (fun c_25 => ?_)
      rotate_left
      · skip
        exact absurd rfl c_25
      exact no (fun q => hq ((hg p).mp q).1)
theorem c_mo_lp {dn : Nat → Nat} {dl : Nat → Nat → Nat} {i : Nat} {b : Int} {L : List Nat} {G : Nat → Nat → Int} (hL : x_SL L) (hF : x_Fin xFL G) (hD : mDk dn dl G) (hi : i < 4) (hb : b = 0 ∨ b = 1) :
    CM yX12_leastPeriod mX12_leastPeriod 1 0 0 [vR 127, vI i, vI b] L G (qI L fun x G' => x = ((if b = 1 then zRT (dl i) (dn i) else zLP (dl i) (dn i) : Nat) : Int) ∧ G' = G) := by
  obtain ⟨d1, d2, d3⟩ := hD i hi
  refine Ct.of_X (μ := mX12_leastPeriod) rfl rfl (by decide) (fun h => by cases h) (Nat.le_of_ble_eq_true rfl) rfl ?_
  by_cases h0 : dn i = 0
  · skip
    refine x_aloadn (pc := 0) dX12_leastPeriod_0 rfl ?_
    refine x_getR (137) (pc := 1) dX12_leastPeriod_1 fl_X12_37 k_127 (hL 127 (by decide) (by decide)) (f_127_12 hF) ?_
    refine x_iloadn (pc := 4) dX12_leastPeriod_4 rfl ?_
    refine x_iald (i) (pc := 5) dX12_leastPeriod_5 k_137 (hL 137 (by decide) (by decide)) (⟨by omega, by omega, by decide⟩) ?_
    refine x_ine (tgt := 13) (pc := 6) dX12_leastPeriod_6 (by decide) (by omega) (fun c_6 => ?_) (fun c_6 => ?_)
    · skip
      exact absurd c_6 (by omega)
    refine x_iconst (pc := 9) dX12_leastPeriod_9 ?_
    refine x_goto (tgt := 14) (pc := 10) dX12_leastPeriod_10 (by decide) ?_
    refine x_istoren (pc := 14) dX12_leastPeriod_14 rfl (by decide) rfl ?_
    refine x_iloadn (pc := 15) dX12_leastPeriod_15 rfl ?_
    refine x_ile (tgt := 49) (pc := 16) dX12_leastPeriod_16 (by decide) (by omega) (fun c_16 => ?_) (fun c_16 => ?_)
    rotate_left
    · skip
      exact absurd c_16 (by decide)
    refine x_iloadn (pc := 49) dX12_leastPeriod_49 rfl ?_
    refine x_rI (pc := 50) dX12_leastPeriod_50 rfl ?_
    refine ⟨?_, rfl⟩
    unfold zRT zLP
    rw [if_pos h0, if_pos h0]; split <;> rfl
  · skip
    refine x_aloadn (pc := 0) dX12_leastPeriod_0 rfl ?_
    refine x_getR (137) (pc := 1) dX12_leastPeriod_1 fl_X12_37 k_127 (hL 127 (by decide) (by decide)) (f_127_12 hF) ?_
    refine x_iloadn (pc := 4) dX12_leastPeriod_4 rfl ?_
    refine x_iald (i) (pc := 5) dX12_leastPeriod_5 k_137 (hL 137 (by decide) (by decide)) (⟨by omega, by omega, by decide⟩) ?_
    refine x_ine (tgt := 13) (pc := 6) dX12_leastPeriod_6 (by decide) (by omega) (fun c_6 => ?_) (fun c_6 => ?_)
    rotate_left
    · skip
      exact absurd c_6 (by omega)
    refine x_iconst (pc := 13) dX12_leastPeriod_13 ?_
    refine x_istoren (pc := 14) dX12_leastPeriod_14 rfl (by decide) rfl ?_
    rcases hb with rfl | rfl
    · rw [if_neg (by decide)]
      exact l_mo_lp hL hF hD hi (Or.inl rfl) (zper (dl i) (dn i)) (fun p => ⟨fun q => ⟨q, fun e => by cases e⟩, fun q => q.1⟩) (zper_n _ _) (dn i) 1 _ (by omega) (by omega) (by omega) (by unfold zLP; rw [if_neg h0])
    · rw [if_pos rfl]
      exact l_mo_lp hL hF hD hi (Or.inr rfl) (zroot (dl i) (dn i)) (fun p => by unfold zroot; rw [Bool.and_eq_true, decide_eq_true_iff]; exact ⟨fun q => ⟨q.2, fun _ => q.1⟩, fun q => ⟨q.2 rfl, q.1⟩⟩) (zroot_n _ _) (dn i) 1 _ (by omega) (by omega) (by omega) (by unfold zRT; rw [if_neg h0])
theorem c_mo_tl {dn : Nat → Nat} {dl : Nat → Nat → Nat} {i k j : Nat} {L : List Nat} {G : Nat → Nat → Int} (hL : x_SL L) (hF : x_Fin xFL G) (hD : mDk dn dl G) (hi : i < 4) (hk : k < dn i) (hj : j < dn i) :
    CM yX12_turnAt mX12_turnAt 0 0 0 [vR 127, vI i, vI k, vI j] L G (qI L fun x G' => x = ztl (dl i) (dn i) k j ∧ G' = G) := by
  obtain ⟨d1, d2, d3⟩ := hD i hi
  have hm : (k + j) % dn i < dn i := Nat.mod_lt _ (by omega)
  obtain ⟨a1, a2⟩ := d3 _ hm
  refine Ct.of_X (μ := mX12_turnAt) rfl rfl (by decide) (fun h => by cases h) (Nat.le_of_ble_eq_true rfl) rfl ?_
  refine x_aloadn (pc := 0) dX12_turnAt_0 rfl ?_
  refine x_getR (136) (pc := 1) dX12_turnAt_1 fl_X12_34 k_127 (hL 127 (by decide) (by decide)) (f_127_11 hF) ?_
  refine x_bipush (pc := 4) dX12_turnAt_4 (by decide) ?_
  refine x_iloadn (pc := 6) dX12_turnAt_6 rfl ?_
  refine x_imul (pc := 7) dX12_turnAt_7 ?_
  refine x_iloadn (pc := 8) dX12_turnAt_8 rfl ?_
  refine x_iloadn (pc := 9) dX12_turnAt_9 rfl ?_
  refine x_iadd (pc := 10) dX12_turnAt_10 ?_
  refine x_aloadn (pc := 11) dX12_turnAt_11 rfl ?_
  refine x_getR (137) (pc := 12) dX12_turnAt_12 fl_X12_37 k_127 (hL 127 (by decide) (by decide)) (f_127_12 hF) ?_
  refine x_iloadn (pc := 15) dX12_turnAt_15 rfl ?_
  refine x_iald (i) (pc := 16) dX12_turnAt_16 k_137 (hL 137 (by decide) (by decide)) (⟨by omega, by omega, by decide⟩) ?_
  rw [d1]
  refine x_irem (pc := 17) dX12_turnAt_17 (by omega) ?_
  rw [← Int.natCast_add, ← Int.natCast_emod]
  refine x_iadd (pc := 18) dX12_turnAt_18 ?_
  refine x_iald (30 * i + (k + j) % dn i) (pc := 19) dX12_turnAt_19 k_136 (hL 136 (by decide) (by decide)) (⟨by omega, by omega, by decide⟩) ?_
  refine x_rI (pc := 20) dX12_turnAt_20 rfl ?_
  exact ⟨a1, rfl⟩
theorem zta_skip {f : Nat → Nat} {n a b : Nat} : ∀ j k, (∀ x, x < j → ztl f n a x = ztl f n b x) → zta f n a b (k + j) 0 = zta f n a b k j
  | 0, _, _ => rfl
  | j + 1, k, h => by
    have e : k + (j + 1) = (k + 1) + j := by omega
    rw [e, zta_skip j (k + 1) (fun x hx => h x (by omega)), zta, if_pos (h j (by omega))]
theorem l_mo_ltI {dn : Nat → Nat} {dl : Nat → Nat → Nat} {i k b : Nat} {Q : x_Q} {L : List Nat} {G : Nat → Nat → Int} (hL : x_SL L) (hF : x_Fin xFL G) (hD : mDk dn dl G) (hi : i < 4) (hk : k < dn i) (hb : b < dn i)
    (cont : ∀ j, j ≤ dn i → (∀ x, x < j → ztl (dl i) (dn i) k x = ztl (dl i) (dn i) b x) → (j < dn i → ztl (dl i) (dn i) k j ≠ ztl (dl i) (dn i) b j) → X mX12_leastTurn 1 0 0 Q 53 [some (vR 127), some (vI i), some (vI b), some (vI k), some (vI j)] [] L G 0 0) :
    ∀ (r j : Nat), j + r = dn i → (∀ x, x < j → ztl (dl i) (dn i) k x = ztl (dl i) (dn i) b x) → X mX12_leastTurn 1 0 0 Q 17 [some (vR 127), some (vI i), some (vI b), some (vI k), some (vI j)] [] L G 0 0 := by
  obtain ⟨d1, d2, d3⟩ := hD i hi
  intro r
  induction r with
  | zero =>
    intro j hj he
    refine x_iload (pc := 17) dX12_leastTurn_17 rfl ?_
    refine x_aloadn (pc := 19) dX12_leastTurn_19 rfl ?_
    refine x_getR (137) (pc := 20) dX12_leastTurn_20 fl_X12_37 k_127 (hL 127 (by decide) (by decide)) (f_127_12 hF) ?_
    refine x_iloadn (pc := 23) dX12_leastTurn_23 rfl ?_
    refine x_iald (i) (pc := 24) dX12_leastTurn_24 k_137 (hL 137 (by decide) (by decide)) (⟨by omega, by omega, by decide⟩) ?_
    refine x_cge (tgt := 53) (pc := 25) dX12_leastTurn_25 (by decide) (by omega) (fun c_25 => ?_) (fun c_25 => ?_)
    rotate_left
    · skip
      exact absurd c_25 (by omega)
    exact cont j (by omega) he (fun q => absurd q (by omega))
  | succ r ih =>
    intro j hj he
    have t1 := ztl_lt (f := dl i) (n := dn i) (k := k) (i := j) (by omega) (fun j hj => (d3 j hj).2)
    have t2 := ztl_lt (f := dl i) (n := dn i) (k := b) (i := j) (by omega) (fun j hj => (d3 j hj).2)
    refine x_iload (pc := 17) dX12_leastTurn_17 rfl ?_
    refine x_aloadn (pc := 19) dX12_leastTurn_19 rfl ?_
    refine x_getR (137) (pc := 20) dX12_leastTurn_20 fl_X12_37 k_127 (hL 127 (by decide) (by decide)) (f_127_12 hF) ?_
    refine x_iloadn (pc := 23) dX12_leastTurn_23 rfl ?_
    refine x_iald (i) (pc := 24) dX12_leastTurn_24 k_137 (hL 137 (by decide) (by decide)) (⟨by omega, by omega, by decide⟩) ?_
    refine x_cge (tgt := 53) (pc := 25) dX12_leastTurn_25 (by decide) (by omega) (fun c_25 => ?_) (fun c_25 => ?_)
    · skip
      exact absurd c_25 (by omega)
    refine x_aloadn (pc := 28) dX12_leastTurn_28 rfl ?_
    refine x_iloadn (pc := 29) dX12_leastTurn_29 rfl ?_
    refine x_iloadn (pc := 30) dX12_leastTurn_30 rfl ?_
    refine x_iload (pc := 31) dX12_leastTurn_31 rfl ?_
    refine x_cVI (pc := 33) dX12_leastTurn_33 lk_X12_294 (c_mo_tl hL hF hD hi hk (by omega)) k_127 ⟨by decide, rfl⟩ (hL 127 (by decide) (by decide)) (⟨by decide, by decide⟩) (Nat.le_of_ble_eq_true rfl) rfl ?_
    rintro x G' ⟨rfl, rfl⟩
    refine x_aloadn (pc := 36) dX12_leastTurn_36 rfl ?_
    refine x_iloadn (pc := 37) dX12_leastTurn_37 rfl ?_
    refine x_iloadn (pc := 38) dX12_leastTurn_38 rfl ?_
    refine x_iload (pc := 39) dX12_leastTurn_39 rfl ?_
    refine x_cVI (pc := 41) dX12_leastTurn_41 lk_X12_294 (c_mo_tl hL hF hD hi hb (by omega)) k_127 ⟨by decide, rfl⟩ (hL 127 (by decide) (by decide)) (⟨by decide, by decide⟩) (Nat.le_of_ble_eq_true rfl) rfl ?_
    rintro x G' ⟨rfl, rfl⟩
    refine x_cne (tgt := 53) (pc := 44) dX12_leastTurn_44 (by decide) (by omega) (fun c_44 => ?_) (fun c_44 => ?_)
    · skip
      exact cont j (by omega) he (fun _ => by omega)
    · skip
      refine x_iinc (pc := 47) dX12_leastTurn_47 rfl (by decide) rfl ?_
      refine x_goto (tgt := 17) (pc := 50) dX12_leastTurn_50 (by decide) ?_
      refine ih (j + 1) (by omega) (fun x hx => ?_)
      by_cases c : x = j
      · subst c; omega
      · exact he x (by omega)
theorem l_mo_ltT {dn : Nat → Nat} {dl : Nat → Nat → Nat} {i k b j : Nat} {Q : x_Q} {L : List Nat} {G : Nat → Nat → Int} (hL : x_SL L) (hF : x_Fin xFL G) (hD : mDk dn dl G) (hi : i < 4) (hk : k < dn i) (hb : b < dn i) (hj : j ≤ dn i)
    (next : X mX12_leastTurn 1 0 0 Q 4 [some (vR 127), some (vI i), some (vI ((if j < dn i ∧ ztl (dl i) (dn i) k j < ztl (dl i) (dn i) b j then k else b : Nat) : Int)), some (vI ((k + 1 : Nat) : Int)), some (vI j)] [] L G 0 0) :
    X mX12_leastTurn 1 0 0 Q 53 [some (vR 127), some (vI i), some (vI b), some (vI k), some (vI j)] [] L G 0 0 := by
  obtain ⟨d1, d2, d3⟩ := hD i hi
  by_cases c : j < dn i
  · have t1 := ztl_lt (f := dl i) (n := dn i) (k := k) (i := j) (by omega) (fun j hj => (d3 j hj).2)
    have t2 := ztl_lt (f := dl i) (n := dn i) (k := b) (i := j) (by omega) (fun j hj => (d3 j hj).2)
    refine x_iload (pc := 53) dX12_leastTurn_53 rfl ?_
    refine x_aloadn (pc := 55) dX12_leastTurn_55 rfl ?_
    refine x_getR (137) (pc := 56) dX12_leastTurn_56 fl_X12_37 k_127 (hL 127 (by decide) (by decide)) (f_127_12 hF) ?_
    refine x_iloadn (pc := 59) dX12_leastTurn_59 rfl ?_
    refine x_iald (i) (pc := 60) dX12_leastTurn_60 k_137 (hL 137 (by decide) (by decide)) (⟨by omega, by omega, by decide⟩) ?_
    refine x_cge (tgt := 87) (pc := 61) dX12_leastTurn_61 (by decide) (by omega) (fun c_61 => ?_) (fun c_61 => ?_)
    · skip
      exact absurd c_61 (by omega)
    refine x_aloadn (pc := 64) dX12_leastTurn_64 rfl ?_
    refine x_iloadn (pc := 65) dX12_leastTurn_65 rfl ?_
    refine x_iloadn (pc := 66) dX12_leastTurn_66 rfl ?_
    refine x_iload (pc := 67) dX12_leastTurn_67 rfl ?_
    refine x_cVI (pc := 69) dX12_leastTurn_69 lk_X12_294 (c_mo_tl hL hF hD hi hk c) k_127 ⟨by decide, rfl⟩ (hL 127 (by decide) (by decide)) (⟨by decide, by decide⟩) (Nat.le_of_ble_eq_true rfl) rfl ?_
    rintro x G' ⟨rfl, rfl⟩
    refine x_aloadn (pc := 72) dX12_leastTurn_72 rfl ?_
    refine x_iloadn (pc := 73) dX12_leastTurn_73 rfl ?_
    refine x_iloadn (pc := 74) dX12_leastTurn_74 rfl ?_
    refine x_iload (pc := 75) dX12_leastTurn_75 rfl ?_
    refine x_cVI (pc := 77) dX12_leastTurn_77 lk_X12_294 (c_mo_tl hL hF hD hi hb c) k_127 ⟨by decide, rfl⟩ (hL 127 (by decide) (by decide)) (⟨by decide, by decide⟩) (Nat.le_of_ble_eq_true rfl) rfl ?_
    rintro x G' ⟨rfl, rfl⟩
    refine x_cge (tgt := 87) (pc := 80) dX12_leastTurn_80 (by decide) (by omega) (fun c_80 => ?_) (fun c_80 => ?_)
    · skip
      refine x_iloadn (pc := 87) dX12_leastTurn_87 rfl ?_
      refine x_istoren (pc := 88) dX12_leastTurn_88 rfl (by decide) rfl ?_
      refine x_iinc (pc := 89) dX12_leastTurn_89 rfl (by decide) rfl ?_
      refine x_goto (tgt := 4) (pc := 92) dX12_leastTurn_92 (by decide) ?_
      first | (rw [if_pos (by omega)] at next; exact next) | (rw [if_neg (by omega)] at next; exact next)
    · skip
      refine x_iloadn (pc := 83) dX12_leastTurn_83 rfl ?_
      refine x_goto (tgt := 88) (pc := 84) dX12_leastTurn_84 (by decide) ?_
      refine x_istoren (pc := 88) dX12_leastTurn_88 rfl (by decide) rfl ?_
      refine x_iinc (pc := 89) dX12_leastTurn_89 rfl (by decide) rfl ?_
      refine x_goto (tgt := 4) (pc := 92) dX12_leastTurn_92 (by decide) ?_
      first | (rw [if_pos (by omega)] at next; exact next) | (rw [if_neg (by omega)] at next; exact next)
  · rw [if_neg (by omega)] at next
    refine x_iload (pc := 53) dX12_leastTurn_53 rfl ?_
    refine x_aloadn (pc := 55) dX12_leastTurn_55 rfl ?_
    refine x_getR (137) (pc := 56) dX12_leastTurn_56 fl_X12_37 k_127 (hL 127 (by decide) (by decide)) (f_127_12 hF) ?_
    refine x_iloadn (pc := 59) dX12_leastTurn_59 rfl ?_
    refine x_iald (i) (pc := 60) dX12_leastTurn_60 k_137 (hL 137 (by decide) (by decide)) (⟨by omega, by omega, by decide⟩) ?_
    refine x_cge (tgt := 87) (pc := 61) dX12_leastTurn_61 (by decide) (by omega) (fun c_61 => ?_) (fun c_61 => ?_)
    rotate_left
    · skip
      exact absurd c_61 (by omega)
    refine x_iloadn (pc := 87) dX12_leastTurn_87 rfl ?_
    refine x_istoren (pc := 88) dX12_leastTurn_88 rfl (by decide) rfl ?_
    refine x_iinc (pc := 89) dX12_leastTurn_89 rfl (by decide) rfl ?_
    refine x_goto (tgt := 4) (pc := 92) dX12_leastTurn_92 (by decide) ?_
    exact next
theorem l_mo_lt {dn : Nat → Nat} {dl : Nat → Nat → Nat} {i : Nat} {L : List Nat} {G : Nat → Nat → Int} (hL : x_SL L) (hF : x_Fin xFL G) (hD : mDk dn dl G) (hi : i < 4) :
    ∀ (r t : Nat) (o : Option (Nat × Int)), t + r = dn i - 1 → X mX12_leastTurn 1 0 0 (qI L fun x G' => x = zltb (dl i) (dn i) (dn i - 1) ∧ G' = G) 4 [some (vR 127), some (vI i), some (vI (zltb (dl i) (dn i) t)), some (vI ((t + 1 : Nat) : Int)), o] [] L G 0 0 := by
  obtain ⟨d1, d2, d3⟩ := hD i hi
  intro r
  induction r with
  | zero =>
    intro t o ht
    have ht : t = dn i - 1 := by omega
    subst ht
    refine x_iloadn (pc := 4) dX12_leastTurn_4 rfl ?_
    refine x_aloadn (pc := 5) dX12_leastTurn_5 rfl ?_
    refine x_getR (137) (pc := 6) dX12_leastTurn_6 fl_X12_37 k_127 (hL 127 (by decide) (by decide)) (f_127_12 hF) ?_
    refine x_iloadn (pc := 9) dX12_leastTurn_9 rfl ?_
    refine x_iald (i) (pc := 10) dX12_leastTurn_10 k_137 (hL 137 (by decide) (by decide)) (⟨by omega, by omega, by decide⟩) ?_
    refine x_cge (tgt := 95) (pc := 11) dX12_leastTurn_11 (by decide) (by omega) (fun c_11 => ?_) (fun c_11 => ?_)
    rotate_left
    · skip
      exact absurd c_11 (by omega)
    refine x_iloadn (pc := 95) dX12_leastTurn_95 rfl ?_
    refine x_rI (pc := 96) dX12_leastTurn_96 rfl ?_
    exact ⟨rfl, rfl⟩
  | succ r ih =>
    intro t o ht
    have hb := zltb_le (dl i) (dn i) t
    refine x_iloadn (pc := 4) dX12_leastTurn_4 rfl ?_
    refine x_aloadn (pc := 5) dX12_leastTurn_5 rfl ?_
    refine x_getR (137) (pc := 6) dX12_leastTurn_6 fl_X12_37 k_127 (hL 127 (by decide) (by decide)) (f_127_12 hF) ?_
    refine x_iloadn (pc := 9) dX12_leastTurn_9 rfl ?_
    refine x_iald (i) (pc := 10) dX12_leastTurn_10 k_137 (hL 137 (by decide) (by decide)) (⟨by omega, by omega, by decide⟩) ?_
    refine x_cge (tgt := 95) (pc := 11) dX12_leastTurn_11 (by decide) (by omega) (fun c_11 => ?_) (fun c_11 => ?_)
    · skip
      exact absurd c_11 (by omega)
    refine x_iconst (pc := 14) dX12_leastTurn_14 ?_
    refine x_istore (pc := 15) dX12_leastTurn_15 (by decide) rfl ?_
    refine l_mo_ltI hL hF hD hi (k := t + 1) (b := zltb (dl i) (dn i) t) (by omega) (by omega) (fun j hj he hne => ?_) (dn i) 0 (by omega) (fun x hx => absurd hx (Nat.not_lt_zero x))
    have hs := zta_skip (f := dl i) (n := dn i) (a := t + 1) (b := zltb (dl i) (dn i) t) j (dn i - j) he
    rw [show dn i - j + j = dn i by omega] at hs
    have ih2 := ih (t + 1) (some (vI j)) (by omega)
    rw [zltb, hs] at ih2
    refine l_mo_ltT hL hF hD hi (by omega) (by omega) hj ?_
    by_cases c : j < dn i
    · have hs2 : zta (dl i) (dn i) (t + 1) (zltb (dl i) (dn i) t) (dn i - j) j = decide (ztl (dl i) (dn i) (t + 1) j < ztl (dl i) (dn i) (zltb (dl i) (dn i) t) j) := by
        rw [show dn i - j = (dn i - j - 1) + 1 by omega, zta, if_neg (hne c)]
      rw [hs2] at ih2
      by_cases c2 : ztl (dl i) (dn i) (t + 1) j < ztl (dl i) (dn i) (zltb (dl i) (dn i) t) j
      · rw [if_pos (decide_eq_true c2)] at ih2
        rw [if_pos ⟨c, c2⟩]; exact ih2
      · rw [if_neg (by rw [decide_eq_true_iff]; exact c2)] at ih2
        rw [if_neg (fun q => c2 q.2)]; exact ih2
    · rw [show dn i - j = 0 by omega, zta, if_neg (by decide)] at ih2
      rw [if_neg (fun q => c q.1)]; exact ih2
theorem c_mo_lt {dn : Nat → Nat} {dl : Nat → Nat → Nat} {i : Nat} {L : List Nat} {G : Nat → Nat → Int} (hL : x_SL L) (hF : x_Fin xFL G) (hD : mDk dn dl G) (hi : i < 4) :
    CM yX12_leastTurn mX12_leastTurn 1 0 0 [vR 127, vI i] L G (qI L fun x G' => x = zltb (dl i) (dn i) (dn i - 1) ∧ G' = G) := by
  refine Ct.of_X (μ := mX12_leastTurn) rfl rfl (by decide) (fun h => by cases h) (Nat.le_of_ble_eq_true rfl) rfl ?_
  refine x_iconst (pc := 0) dX12_leastTurn_0 ?_
  refine x_istoren (pc := 1) dX12_leastTurn_1 rfl (by decide) rfl ?_
  refine x_iconst (pc := 2) dX12_leastTurn_2 ?_
  refine x_istoren (pc := 3) dX12_leastTurn_3 rfl (by decide) rfl ?_
  exact l_mo_lt hL hF hD hi (dn i - 1) 0 _ (by omega)

