/-! a text that is one side; patterns -/
def zpr (b : Nat → Nat) : Nat → Nat → Nat → (Nat → Nat) → Option (Nat × (Nat → Nat))
  | 0, _, m, f => some (m, f)
  | k + 1, i, m, f => if b i = 32 then zpr b k (i + 1) m f else if zitem (b i) = -1 ∨ m = 12 then none else zpr b k (i + 1) (m + 1) (zup f m (zitem (b i)).toNat)
def zpo : Option (Nat × (Nat → Nat)) → Bool
  | none => false
  | some p => decide (1 ≤ p.1)
theorem zpr_bd (b : Nat → Nat) : ∀ (k i m : Nat) (f : Nat → Nat) (p : Nat × (Nat → Nat)), m ≤ 12 → (∀ j, j < m → zV (f j)) → zpr b k i m f = some p → m ≤ p.1 ∧ p.1 ≤ 12 ∧ ∀ j, j < p.1 → zV (p.2 j)
  | 0, i, m, f, p, hm, hv, h => by
    rw [zpr] at h
    cases h
    exact ⟨Nat.le_refl _, hm, hv⟩
  | k + 1, i, m, f, p, hm, hv, h => by
    rw [zpr] at h
    by_cases c : b i = 32
    · rw [if_pos c] at h; exact zpr_bd b k _ m f p hm hv h
    · rw [if_neg c] at h
      by_cases c2 : zitem (b i) = -1 ∨ m = 12
      · rw [if_pos c2] at h; cases h
      · rw [if_neg c2] at h
        have := zpr_bd b k _ _ _ p (by omega) (fun j hj => by
          by_cases cj : j = m
          · subst cj; rw [zup_s]; exact (zitem_V (by omega)).1
          · rw [zup_n cj]; exact hv j (by omega)) h
        exact ⟨by omega, this.2⟩
theorem l_Tx_osN {n : Nat} {b : Nat → Nat} {L : List Nat} {G : Nat → Nat → Int} (hL : x_SL L) (hF : x_Fin xFL G) (hT : cTx n b G) : ∀ (k i m : Nat), i + k = n → 12 < m → m ≤ 12 + i →
    X mX9_isOneSide 1 0 0 (qI L fun x G' => x = 0 ∧ G' = G) 4 [some (vR 2), some (vI m), some (vI i)] [] L G 0 0 := by
  obtain ⟨h1, h2, h3⟩ := hT
  intro k
  induction k with
  | zero =>
    intro i m hi hm hmi
    refine x_iloadn (pc := 4) dX9_isOneSide_4 rfl ?_
    refine x_aloadn (pc := 5) dX9_isOneSide_5 rfl ?_
    refine x_getI (pc := 6) dX9_isOneSide_6 fl_X9_15 k_2 (hL 2 (by decide) (by decide)) ?_
    refine x_cge (tgt := 50) (pc := 9) dX9_isOneSide_9 (by decide) (by omega) (fun c_9 => ?_) (fun c_9 => ?_)
    rotate_left
    · skip
      exact absurd c_9 (by omega)
    refine x_iloadn (pc := 50) dX9_isOneSide_50 rfl ?_
    refine x_iconst (pc := 51) dX9_isOneSide_51 ?_
    refine x_clt (tgt := 65) (pc := 52) dX9_isOneSide_52 (by decide) (by omega) (fun c_52 => ?_) (fun c_52 => ?_)
    · skip
      refine x_iconst (pc := 65) dX9_isOneSide_65 ?_
      refine x_rZ (pc := 66) dX9_isOneSide_66 rfl (by omega) ?_
      exact ⟨by omega, rfl⟩
    · skip
      refine x_iloadn (pc := 55) dX9_isOneSide_55 rfl ?_
      refine x_bipush (pc := 56) dX9_isOneSide_56 (by decide) ?_
      refine x_cgt (tgt := 65) (pc := 58) dX9_isOneSide_58 (by decide) (by omega) (fun c_58 => ?_) (fun c_58 => ?_)
      · skip
        refine x_iconst (pc := 65) dX9_isOneSide_65 ?_
        refine x_rZ (pc := 66) dX9_isOneSide_66 rfl (by omega) ?_
        exact ⟨by omega, rfl⟩
      · skip
        refine x_iconst (pc := 61) dX9_isOneSide_61 ?_
        refine x_goto (tgt := 66) (pc := 62) dX9_isOneSide_62 (by decide) ?_
        refine x_rZ (pc := 66) dX9_isOneSide_66 rfl (by omega) ?_
        exact ⟨by omega, rfl⟩
  | succ k ih =>
    intro i m hi hm hmi
    have hbi := h3 i (by omega)
    refine x_iloadn (pc := 4) dX9_isOneSide_4 rfl ?_
    refine x_aloadn (pc := 5) dX9_isOneSide_5 rfl ?_
    refine x_getI (pc := 6) dX9_isOneSide_6 fl_X9_15 k_2 (hL 2 (by decide) (by decide)) ?_
    refine x_cge (tgt := 50) (pc := 9) dX9_isOneSide_9 (by decide) (by omega) (fun c_9 => ?_) (fun c_9 => ?_)
    · skip
      exact absurd c_9 (by omega)
    refine x_aloadn (pc := 12) dX9_isOneSide_12 rfl ?_
    refine x_getR (3) (pc := 13) dX9_isOneSide_13 fl_X9_9 k_2 (hL 2 (by decide) (by decide)) (f_2_0 hF) ?_
    refine x_iloadn (pc := 16) dX9_isOneSide_16 rfl ?_
    refine x_iald _ (pc := 17) dX9_isOneSide_17 k_3 (hL 3 (by decide) (by decide)) (⟨rfl, by omega, by decide⟩) ?_
    rw [hbi.1]
    refine x_bipush (pc := 18) dX9_isOneSide_18 (by decide) ?_
    refine x_cne (tgt := 26) (pc := 20) dX9_isOneSide_20 (by decide) (by omega) (fun c_20 => ?_) (fun c_20 => ?_)
    · skip
      refine x_aloadn (pc := 26) dX9_isOneSide_26 rfl ?_
      refine x_getR (3) (pc := 27) dX9_isOneSide_27 fl_X9_9 k_2 (hL 2 (by decide) (by decide)) (f_2_0 hF) ?_
      refine x_iloadn (pc := 30) dX9_isOneSide_30 rfl ?_
      refine x_iald _ (pc := 31) dX9_isOneSide_31 k_3 (hL 3 (by decide) (by decide)) (⟨rfl, by omega, by decide⟩) ?_
      rw [hbi.1]
      refine x_cSI (pc := 32) dX9_isOneSide_32 lk_X9_19 (c_Tx_itemOf (by omega)) (⟨by decide, by decide⟩) (Nat.le_of_ble_eq_true rfl) rfl ?_
      rintro x G' ⟨rfl, rfl⟩
      refine x_iconst (pc := 35) dX9_isOneSide_35 ?_
      refine x_cne (tgt := 41) (pc := 36) dX9_isOneSide_36 (by decide) (by have := zitem_bd (b i); omega) (fun c_36 => ?_) (fun c_36 => ?_)
      · skip
        refine x_iinc (pc := 41) dX9_isOneSide_41 rfl (by decide) rfl ?_
        refine x_iinc (pc := 44) dX9_isOneSide_44 rfl (by decide) rfl ?_
        refine x_goto (tgt := 4) (pc := 47) dX9_isOneSide_47 (by decide) ?_
        first
        | exact ih (i + 1) (m + 1) (by omega) (by omega) (by omega)
        | exact ih (i + 1) m (by omega) (by omega) (by omega)
      · skip
        refine x_iconst (pc := 39) dX9_isOneSide_39 ?_
        refine x_rZ (pc := 40) dX9_isOneSide_40 rfl (by omega) ?_
        exact ⟨rfl, rfl⟩
    · skip
      refine x_goto (tgt := 44) (pc := 23) dX9_isOneSide_23 (by decide) ?_
      refine x_iinc (pc := 44) dX9_isOneSide_44 rfl (by decide) rfl ?_
      refine x_goto (tgt := 4) (pc := 47) dX9_isOneSide_47 (by decide) ?_
      first
      | exact ih (i + 1) (m + 1) (by omega) (by omega) (by omega)
      | exact ih (i + 1) m (by omega) (by omega) (by omega)
theorem l_Tx_os {n : Nat} {b : Nat → Nat} {z : Option (Nat × (Nat → Nat))} {L : List Nat} {G : Nat → Nat → Int} (hL : x_SL L) (hF : x_Fin xFL G) (hT : cTx n b G) : ∀ (k i m : Nat) (f : Nat → Nat), i + k = n → m ≤ 12 → m ≤ i → zpr b k i m f = z →
    X mX9_isOneSide 1 0 0 (qI L fun x G' => x = (if zpo z = true then 1 else 0) ∧ G' = G) 4 [some (vR 2), some (vI m), some (vI i)] [] L G 0 0 := by
  obtain ⟨h1, h2, h3⟩ := id hT
  intro k
  induction k with
  | zero =>
    intro i m f hi hm hmi hz
    subst hz
    rw [zpr, zpo]
    refine x_iloadn (pc := 4) dX9_isOneSide_4 rfl ?_
    refine x_aloadn (pc := 5) dX9_isOneSide_5 rfl ?_
    refine x_getI (pc := 6) dX9_isOneSide_6 fl_X9_15 k_2 (hL 2 (by decide) (by decide)) ?_
    refine x_cge (tgt := 50) (pc := 9) dX9_isOneSide_9 (by decide) (by omega) (fun c_9 => ?_) (fun c_9 => ?_)
    rotate_left
    · skip
      exact absurd c_9 (by omega)
    refine x_iloadn (pc := 50) dX9_isOneSide_50 rfl ?_
    refine x_iconst (pc := 51) dX9_isOneSide_51 ?_
    refine x_clt (tgt := 65) (pc := 52) dX9_isOneSide_52 (by decide) (by omega) (fun c_52 => ?_) (fun c_52 => ?_)
    · skip
      refine x_iconst (pc := 65) dX9_isOneSide_65 ?_
      refine x_rZ (pc := 66) dX9_isOneSide_66 rfl (by omega) ?_
      refine ⟨?_, rfl⟩
      first
      | (rw [if_pos (by exact decide_eq_true (by omega))]; done)
      | (rw [if_neg (by rw [decide_eq_true_iff]; omega)]; done)
      | omega
    · skip
      refine x_iloadn (pc := 55) dX9_isOneSide_55 rfl ?_
      refine x_bipush (pc := 56) dX9_isOneSide_56 (by decide) ?_
      refine x_cgt (tgt := 65) (pc := 58) dX9_isOneSide_58 (by decide) (by omega) (fun c_58 => ?_) (fun c_58 => ?_)
      · skip
        refine x_iconst (pc := 65) dX9_isOneSide_65 ?_
        refine x_rZ (pc := 66) dX9_isOneSide_66 rfl (by omega) ?_
        refine ⟨?_, rfl⟩
        first
        | (rw [if_pos (by exact decide_eq_true (by omega))]; done)
        | (rw [if_neg (by rw [decide_eq_true_iff]; omega)]; done)
        | omega
      · skip
        refine x_iconst (pc := 61) dX9_isOneSide_61 ?_
        refine x_goto (tgt := 66) (pc := 62) dX9_isOneSide_62 (by decide) ?_
        refine x_rZ (pc := 66) dX9_isOneSide_66 rfl (by omega) ?_
        refine ⟨?_, rfl⟩
        first
        | (rw [if_pos (by exact decide_eq_true (by omega))]; done)
        | (rw [if_neg (by rw [decide_eq_true_iff]; omega)]; done)
        | omega
  | succ k ih =>
    intro i m f hi hm hmi hz
    rw [zpr] at hz
    have hbi := h3 i (by omega)
    have hzb := zitem_bd (b i)
    by_cases c0 : b i = 32
    · rw [if_pos c0] at hz
      refine x_iloadn (pc := 4) dX9_isOneSide_4 rfl ?_
      refine x_aloadn (pc := 5) dX9_isOneSide_5 rfl ?_
      refine x_getI (pc := 6) dX9_isOneSide_6 fl_X9_15 k_2 (hL 2 (by decide) (by decide)) ?_
      refine x_cge (tgt := 50) (pc := 9) dX9_isOneSide_9 (by decide) (by omega) (fun c_9 => ?_) (fun c_9 => ?_)
      · skip
        exact absurd c_9 (by omega)
      refine x_aloadn (pc := 12) dX9_isOneSide_12 rfl ?_
      refine x_getR (3) (pc := 13) dX9_isOneSide_13 fl_X9_9 k_2 (hL 2 (by decide) (by decide)) (f_2_0 hF) ?_
      refine x_iloadn (pc := 16) dX9_isOneSide_16 rfl ?_
      refine x_iald _ (pc := 17) dX9_isOneSide_17 k_3 (hL 3 (by decide) (by decide)) (⟨rfl, by omega, by decide⟩) ?_
      rw [hbi.1]
      refine x_bipush (pc := 18) dX9_isOneSide_18 (by decide) ?_
      refine x_cne (tgt := 26) (pc := 20) dX9_isOneSide_20 (by decide) (by omega) (fun c_20 => ?_) (fun c_20 => ?_)
      · skip
        exact absurd c_20 (by omega)
      refine x_goto (tgt := 44) (pc := 23) dX9_isOneSide_23 (by decide) ?_
      refine x_iinc (pc := 44) dX9_isOneSide_44 rfl (by decide) rfl ?_
      refine x_goto (tgt := 4) (pc := 47) dX9_isOneSide_47 (by decide) ?_
      exact ih (i + 1) m f (by omega) hm (by omega) hz
    · rw [if_neg c0] at hz
      by_cases c1 : zitem (b i) = -1
      · rw [if_pos (Or.inl c1)] at hz
        subst hz
        rw [zpo]
        refine x_iloadn (pc := 4) dX9_isOneSide_4 rfl ?_
        refine x_aloadn (pc := 5) dX9_isOneSide_5 rfl ?_
        refine x_getI (pc := 6) dX9_isOneSide_6 fl_X9_15 k_2 (hL 2 (by decide) (by decide)) ?_
        refine x_cge (tgt := 50) (pc := 9) dX9_isOneSide_9 (by decide) (by omega) (fun c_9 => ?_) (fun c_9 => ?_)
        · skip
          exact absurd c_9 (by omega)
        refine x_aloadn (pc := 12) dX9_isOneSide_12 rfl ?_
        refine x_getR (3) (pc := 13) dX9_isOneSide_13 fl_X9_9 k_2 (hL 2 (by decide) (by decide)) (f_2_0 hF) ?_
        refine x_iloadn (pc := 16) dX9_isOneSide_16 rfl ?_
        refine x_iald _ (pc := 17) dX9_isOneSide_17 k_3 (hL 3 (by decide) (by decide)) (⟨rfl, by omega, by decide⟩) ?_
        rw [hbi.1]
        refine x_bipush (pc := 18) dX9_isOneSide_18 (by decide) ?_
        refine x_cne (tgt := 26) (pc := 20) dX9_isOneSide_20 (by decide) (by omega) (fun c_20 => ?_) (fun c_20 => ?_)
        rotate_left
        · skip
          exact absurd c_20 (by omega)
        refine x_aloadn (pc := 26) dX9_isOneSide_26 rfl ?_
        refine x_getR (3) (pc := 27) dX9_isOneSide_27 fl_X9_9 k_2 (hL 2 (by decide) (by decide)) (f_2_0 hF) ?_
        refine x_iloadn (pc := 30) dX9_isOneSide_30 rfl ?_
        refine x_iald _ (pc := 31) dX9_isOneSide_31 k_3 (hL 3 (by decide) (by decide)) (⟨rfl, by omega, by decide⟩) ?_
        rw [hbi.1]
        refine x_cSI (pc := 32) dX9_isOneSide_32 lk_X9_19 (c_Tx_itemOf (by omega)) (⟨by decide, by decide⟩) (Nat.le_of_ble_eq_true rfl) rfl ?_
        rintro x G' ⟨rfl, rfl⟩
        refine x_iconst (pc := 35) dX9_isOneSide_35 ?_
        refine x_cne (tgt := 41) (pc := 36) dX9_isOneSide_36 (by decide) (by omega) (fun c_36 => ?_) (fun c_36 => ?_)
        · skip
          exact absurd c_36 (by omega)
        refine x_iconst (pc := 39) dX9_isOneSide_39 ?_
        refine x_rZ (pc := 40) dX9_isOneSide_40 rfl (by omega) ?_
        exact ⟨rfl, rfl⟩
      · by_cases c2 : m = 12
        · rw [if_pos (Or.inr c2)] at hz
          subst hz
          rw [zpo]
          refine x_iloadn (pc := 4) dX9_isOneSide_4 rfl ?_
          refine x_aloadn (pc := 5) dX9_isOneSide_5 rfl ?_
          refine x_getI (pc := 6) dX9_isOneSide_6 fl_X9_15 k_2 (hL 2 (by decide) (by decide)) ?_
          refine x_cge (tgt := 50) (pc := 9) dX9_isOneSide_9 (by decide) (by omega) (fun c_9 => ?_) (fun c_9 => ?_)
          · skip
            exact absurd c_9 (by omega)
          refine x_aloadn (pc := 12) dX9_isOneSide_12 rfl ?_
          refine x_getR (3) (pc := 13) dX9_isOneSide_13 fl_X9_9 k_2 (hL 2 (by decide) (by decide)) (f_2_0 hF) ?_
          refine x_iloadn (pc := 16) dX9_isOneSide_16 rfl ?_
          refine x_iald _ (pc := 17) dX9_isOneSide_17 k_3 (hL 3 (by decide) (by decide)) (⟨rfl, by omega, by decide⟩) ?_
          rw [hbi.1]
          refine x_bipush (pc := 18) dX9_isOneSide_18 (by decide) ?_
          refine x_cne (tgt := 26) (pc := 20) dX9_isOneSide_20 (by decide) (by omega) (fun c_20 => ?_) (fun c_20 => ?_)
          rotate_left
          · skip
            exact absurd c_20 (by omega)
          refine x_aloadn (pc := 26) dX9_isOneSide_26 rfl ?_
          refine x_getR (3) (pc := 27) dX9_isOneSide_27 fl_X9_9 k_2 (hL 2 (by decide) (by decide)) (f_2_0 hF) ?_
          refine x_iloadn (pc := 30) dX9_isOneSide_30 rfl ?_
          refine x_iald _ (pc := 31) dX9_isOneSide_31 k_3 (hL 3 (by decide) (by decide)) (⟨rfl, by omega, by decide⟩) ?_
          rw [hbi.1]
          refine x_cSI (pc := 32) dX9_isOneSide_32 lk_X9_19 (c_Tx_itemOf (by omega)) (⟨by decide, by decide⟩) (Nat.le_of_ble_eq_true rfl) rfl ?_
          rintro x G' ⟨rfl, rfl⟩
          refine x_iconst (pc := 35) dX9_isOneSide_35 ?_
          refine x_cne (tgt := 41) (pc := 36) dX9_isOneSide_36 (by decide) (by omega) (fun c_36 => ?_) (fun c_36 => ?_)
          rotate_left
          · skip
            exact absurd c_36 (by omega)
          refine x_iinc (pc := 41) dX9_isOneSide_41 rfl (by decide) rfl ?_
          refine x_iinc (pc := 44) dX9_isOneSide_44 rfl (by decide) rfl ?_
          refine x_goto (tgt := 4) (pc := 47) dX9_isOneSide_47 (by decide) ?_
          exact l_Tx_osN hL hF hT k (i + 1) (m + 1) (by omega) (by omega) (by omega)
        · rw [if_neg (by omega)] at hz
          refine x_iloadn (pc := 4) dX9_isOneSide_4 rfl ?_
          refine x_aloadn (pc := 5) dX9_isOneSide_5 rfl ?_
          refine x_getI (pc := 6) dX9_isOneSide_6 fl_X9_15 k_2 (hL 2 (by decide) (by decide)) ?_
          refine x_cge (tgt := 50) (pc := 9) dX9_isOneSide_9 (by decide) (by omega) (fun c_9 => ?_) (fun c_9 => ?_)
          · skip
            exact absurd c_9 (by omega)
          refine x_aloadn (pc := 12) dX9_isOneSide_12 rfl ?_
          refine x_getR (3) (pc := 13) dX9_isOneSide_13 fl_X9_9 k_2 (hL 2 (by decide) (by decide)) (f_2_0 hF) ?_
          refine x_iloadn (pc := 16) dX9_isOneSide_16 rfl ?_
          refine x_iald _ (pc := 17) dX9_isOneSide_17 k_3 (hL 3 (by decide) (by decide)) (⟨rfl, by omega, by decide⟩) ?_
          rw [hbi.1]
          refine x_bipush (pc := 18) dX9_isOneSide_18 (by decide) ?_
          refine x_cne (tgt := 26) (pc := 20) dX9_isOneSide_20 (by decide) (by omega) (fun c_20 => ?_) (fun c_20 => ?_)
          rotate_left
          · skip
            exact absurd c_20 (by omega)
          refine x_aloadn (pc := 26) dX9_isOneSide_26 rfl ?_
          refine x_getR (3) (pc := 27) dX9_isOneSide_27 fl_X9_9 k_2 (hL 2 (by decide) (by decide)) (f_2_0 hF) ?_
          refine x_iloadn (pc := 30) dX9_isOneSide_30 rfl ?_
          refine x_iald _ (pc := 31) dX9_isOneSide_31 k_3 (hL 3 (by decide) (by decide)) (⟨rfl, by omega, by decide⟩) ?_
          rw [hbi.1]
          refine x_cSI (pc := 32) dX9_isOneSide_32 lk_X9_19 (c_Tx_itemOf (by omega)) (⟨by decide, by decide⟩) (Nat.le_of_ble_eq_true rfl) rfl ?_
          rintro x G' ⟨rfl, rfl⟩
          refine x_iconst (pc := 35) dX9_isOneSide_35 ?_
          refine x_cne (tgt := 41) (pc := 36) dX9_isOneSide_36 (by decide) (by omega) (fun c_36 => ?_) (fun c_36 => ?_)
          rotate_left
          · skip
            exact absurd c_36 (by omega)
          refine x_iinc (pc := 41) dX9_isOneSide_41 rfl (by decide) rfl ?_
          refine x_iinc (pc := 44) dX9_isOneSide_44 rfl (by decide) rfl ?_
          refine x_goto (tgt := 4) (pc := 47) dX9_isOneSide_47 (by decide) ?_
          exact ih (i + 1) (m + 1) _ (by omega) (by omega) (by omega) hz
theorem c_Tx_os {n : Nat} {b : Nat → Nat} {L : List Nat} {G : Nat → Nat → Int} (hL : x_SL L) (hF : x_Fin xFL G) (hT : cTx n b G) :
    CM yX9_isOneSide mX9_isOneSide 1 0 0 [vR 2] L G (qI L fun x G' => x = (if zpo (zpr b n 0 0 (fun _ => 0)) = true then 1 else 0) ∧ G' = G) := by
  refine Ct.of_X (μ := mX9_isOneSide) rfl rfl (by decide) (fun h => by cases h) (Nat.le_of_ble_eq_true rfl) rfl ?_
  refine x_iconst (pc := 0) dX9_isOneSide_0 ?_
  refine x_istoren (pc := 1) dX9_isOneSide_1 rfl (by decide) rfl ?_
  refine x_iconst (pc := 2) dX9_isOneSide_2 ?_
  refine x_istoren (pc := 3) dX9_isOneSide_3 rfl (by decide) rfl ?_
  exact l_Tx_os hL hF hT n 0 0 (fun _ => 0) (by omega) (by decide) (Nat.le_refl _) rfl
theorem cTx_FR {n : Nat} {b : Nat → Nat} {S : List Nat} {G G' : Nat → Nat → Int} (h : cTx n b G) (hR : FR S G G') (h1 : 2 ∉ S) (h2 : 3 ∉ S) : cTx n b G' := ⟨by rw [hR _ h1]; exact h.1, h.2.1, fun i hi => by rw [hR _ h2]; exact h.2.2 i hi⟩
theorem l_Tx_ts {n r q : Nat} {b : Nat → Nat} {p : Nat × (Nat → Nat)} {L : List Nat} {G0 : Nat → Nat → Int} (h : xSd r) (hL : x_SL L) (hT : cTx n b G0) : ∀ (k i m : Nat) (f : Nat → Nat) (G : Nat → Nat → Int), i + k = n → m ≤ 12 → cSd r m (fun _ => f) q G → FR [r, r + 1, r + 2] G0 G → x_Fin xFL G → zpr b k i m f = some p →
    X mX9_tellSide 2 0 0 (qV L fun G' => cSd r p.1 (fun _ => p.2) q G' ∧ FR [r, r + 1, r + 2] G0 G' ∧ x_Fin xFL G') 6 [some (vR 2), some (vR r), some (vI i)] [] L G 0 0 := by
  have hb := sd_b h
  intro k
  induction k with
  | zero =>
    intro i m f G hi hm hS hR hF hz
    obtain ⟨h1, h2, h3⟩ := cTx_FR hT hR (by simp <;> omega) (by simp <;> omega)
    rw [zpr] at hz
    cases hz
    refine x_iloadn (pc := 6) dX9_tellSide_6 rfl ?_
    refine x_aloadn (pc := 7) dX9_tellSide_7 rfl ?_
    refine x_getI (pc := 8) dX9_tellSide_8 fl_X9_15 k_2 (hL 2 (by decide) (by decide)) ?_
    refine x_cge (tgt := 46) (pc := 11) dX9_tellSide_11 (by decide) (by omega) (fun c_11 => ?_) (fun c_11 => ?_)
    rotate_left
    · skip
      exact absurd c_11 (by omega)
    refine x_rV (pc := 46) dX9_tellSide_46 rfl ?_
    exact ⟨hS, hR, hF⟩
  | succ k ih =>
    intro i m f G hi hm hS hR hF hz
    obtain ⟨h1, h2, h3⟩ := cTx_FR hT hR (by simp <;> omega) (by simp <;> omega)
    rw [zpr] at hz
    have hbi := h3 i (by omega)
    have hzb := zitem_bd (b i)
    have hzg := zitem_ge (b i)
    by_cases c0 : b i = 32
    · rw [if_pos c0] at hz
      refine x_iloadn (pc := 6) dX9_tellSide_6 rfl ?_
      refine x_aloadn (pc := 7) dX9_tellSide_7 rfl ?_
      refine x_getI (pc := 8) dX9_tellSide_8 fl_X9_15 k_2 (hL 2 (by decide) (by decide)) ?_
      refine x_cge (tgt := 46) (pc := 11) dX9_tellSide_11 (by decide) (by omega) (fun c_11 => ?_) (fun c_11 => ?_)
      · skip
        exact absurd c_11 (by omega)
      refine x_aloadn (pc := 14) dX9_tellSide_14 rfl ?_
      refine x_getR (3) (pc := 15) dX9_tellSide_15 fl_X9_9 k_2 (hL 2 (by decide) (by decide)) (f_2_0 hF) ?_
      refine x_iloadn (pc := 18) dX9_tellSide_18 rfl ?_
      refine x_iald _ (pc := 19) dX9_tellSide_19 k_3 (hL 3 (by decide) (by decide)) (⟨rfl, by omega, by decide⟩) ?_
      rw [hbi.1]
      refine x_cSI (pc := 20) dX9_tellSide_20 lk_X9_19 (c_Tx_itemOf (by omega)) (⟨by decide, by decide⟩) (Nat.le_of_ble_eq_true rfl) rfl ?_
      rintro x G' ⟨rfl, rfl⟩
      refine x_iconst (pc := 23) dX9_tellSide_23 ?_
      refine x_ceq (tgt := 40) (pc := 24) dX9_tellSide_24 (by decide) (by omega) (fun c_24 => ?_) (fun c_24 => ?_)
      rotate_left
      · skip
        exact absurd c_24 (by omega)
      refine x_iinc (pc := 40) dX9_tellSide_40 rfl (by decide) rfl ?_
      refine x_goto (tgt := 6) (pc := 43) dX9_tellSide_43 (by decide) ?_
      exact ih (i + 1) m f _ (by omega) hm hS hR hF hz
    · rw [if_neg c0] at hz
      by_cases c1 : zitem (b i) = -1 ∨ m = 12
      · rw [if_pos c1] at hz; cases hz
      · rw [if_neg c1] at hz
        obtain ⟨v1, v2⟩ := zitem_V (c := b i) (by omega)
        refine x_iloadn (pc := 6) dX9_tellSide_6 rfl ?_
        refine x_aloadn (pc := 7) dX9_tellSide_7 rfl ?_
        refine x_getI (pc := 8) dX9_tellSide_8 fl_X9_15 k_2 (hL 2 (by decide) (by decide)) ?_
        refine x_cge (tgt := 46) (pc := 11) dX9_tellSide_11 (by decide) (by omega) (fun c_11 => ?_) (fun c_11 => ?_)
        · skip
          exact absurd c_11 (by omega)
        refine x_aloadn (pc := 14) dX9_tellSide_14 rfl ?_
        refine x_getR (3) (pc := 15) dX9_tellSide_15 fl_X9_9 k_2 (hL 2 (by decide) (by decide)) (f_2_0 hF) ?_
        refine x_iloadn (pc := 18) dX9_tellSide_18 rfl ?_
        refine x_iald _ (pc := 19) dX9_tellSide_19 k_3 (hL 3 (by decide) (by decide)) (⟨rfl, by omega, by decide⟩) ?_
        rw [hbi.1]
        refine x_cSI (pc := 20) dX9_tellSide_20 lk_X9_19 (c_Tx_itemOf (by omega)) (⟨by decide, by decide⟩) (Nat.le_of_ble_eq_true rfl) rfl ?_
        rintro x G' ⟨rfl, rfl⟩
        refine x_iconst (pc := 23) dX9_tellSide_23 ?_
        refine x_ceq (tgt := 40) (pc := 24) dX9_tellSide_24 (by decide) (by omega) (fun c_24 => ?_) (fun c_24 => ?_)
        · skip
          exact absurd c_24 (by omega)
        refine x_aloadn (pc := 27) dX9_tellSide_27 rfl ?_
        refine x_aloadn (pc := 28) dX9_tellSide_28 rfl ?_
        refine x_getR (3) (pc := 29) dX9_tellSide_29 fl_X9_9 k_2 (hL 2 (by decide) (by decide)) (f_2_0 hF) ?_
        refine x_iloadn (pc := 32) dX9_tellSide_32 rfl ?_
        refine x_iald _ (pc := 33) dX9_tellSide_33 k_3 (hL 3 (by decide) (by decide)) (⟨rfl, by omega, by decide⟩) ?_
        rw [hbi.1]
        refine x_cSI (pc := 34) dX9_tellSide_34 lk_X9_19 (c_Tx_itemOf (by omega)) (⟨by decide, by decide⟩) (Nat.le_of_ble_eq_true rfl) rfl ?_
        rintro x G' ⟨rfl, rfl⟩
        rw [← v2]
        refine x_cVV (pc := 37) dX9_tellSide_37 lk_X9_35 (c_Sd_add (p := q) (J := fun _ => zup f m (zitem (b i)).toNat) h hL hF hS (by omega) v1 (fun j hj => zup_n (by omega)) zup_s) (sd_k h).1 ⟨by decide, rfl⟩ (sd_m h hL 0 (by decide)) (⟨by decide, by decide⟩) (Nat.le_of_ble_eq_true rfl) rfl ?_
        rintro G1 ⟨a1, a2, hF⟩
        refine x_iinc (pc := 40) dX9_tellSide_40 rfl (by decide) rfl ?_
        refine x_goto (tgt := 6) (pc := 43) dX9_tellSide_43 (by decide) ?_
        exact ih (i + 1) (m + 1) _ _ (by omega) (by omega) a1 (hR.tr a2) hF hz
theorem c_Tx_ts {n r q : Nat} {b : Nat → Nat} {p : Nat × (Nat → Nat)} {L : List Nat} {G : Nat → Nat → Int} (h : xSd r) (hL : x_SL L) (hF : x_Fin xFL G) (hT : cTx n b G) (hz : zpr b n 0 0 (fun _ => 0) = some p) :
    CM yX9_tellSide mX9_tellSide 2 0 0 [vR 2, vR r] L G (qV L fun G' => cSd r p.1 (fun _ => p.2) q G' ∧ FR [r, r + 1, r + 2] G G' ∧ x_Fin xFL G') := by
  refine Ct.of_X (μ := mX9_tellSide) rfl rfl (by decide) (fun h => by cases h) (Nat.le_of_ble_eq_true rfl) rfl ?_
  refine x_aloadn (pc := 0) dX9_tellSide_0 rfl ?_
  refine x_cVV (pc := 1) dX9_tellSide_1 lk_X9_41 (c_Sd_empty (fun _ _ => 0) q h hL hF) (sd_k h).1 ⟨by decide, rfl⟩ (sd_m h hL 0 (by decide)) (⟨by decide, by decide⟩) (Nat.le_of_ble_eq_true rfl) rfl ?_
  rintro G1 ⟨a1, a2, hF⟩
  refine x_iconst (pc := 4) dX9_tellSide_4 ?_
  refine x_istoren (pc := 5) dX9_tellSide_5 rfl (by decide) rfl ?_
  exact l_Tx_ts h hL hT n 0 0 (fun _ => 0) _ (by omega) (by decide) a1 (a2.mono (by simp)) hF hz
def cPt (pn : Nat → Nat) (pl : Nat → Nat → Nat) (G : Nat → Nat → Int) : Prop := ∀ i, i < 4 → cSd (101 + 7 * i) (pn i) pl i G
theorem pt_sd {i : Nat} (h : i < 4) : xSd (101 + 7 * i) := Or.inr ⟨i, h, rfl⟩
theorem pt_fl : ∀ i, i < 4 → ((87, i, 101 + 7 * i) : Nat × Nat × Nat) ∈ xFL := by decide +kernel
abbrev pPatC (L : List Nat) (G : Nat → Nat → Int) (pn : Nat → Nat) (pl : Nat → Nat → Nat) (i : Int) (z : Option (Nat × (Nat → Nat))) : x_Q := qI L fun x G' => (¬ (0 ≤ i ∧ i < 4) ∧ x = -2 ∧ G' = G) ∨ ((0 ≤ i ∧ i < 4) ∧ zpo z = false ∧ x = -4 ∧ G' = G) ∨ ((0 ≤ i ∧ i < 4) ∧ zpo z = true ∧ ∃ p, z = some p ∧ x = p.1 ∧ cPt (zup pn i.toNat p.1) (zup pl i.toNat p.2) G' ∧ cTx 0 (fun _ => 0) G' ∧ FQ [2] 99 127 G G' ∧ x_Fin xFL G')
theorem zpo_some {z : Option (Nat × (Nat → Nat))} (h : zpo z = true) : ∃ p, z = some p ∧ 1 ≤ p.1 := by
  cases z with
  | none => cases h
  | some p => exact ⟨p, rfl, of_decide_eq_true h⟩
theorem c_ts_pattern {n : Nat} {b : Nat → Nat} {pn : Nat → Nat} {pl : Nat → Nat → Nat} {i : Int} {L : List Nat} {G : Nat → Nat → Int} (hL : x_SL L) (hF : x_Fin xFL G) (hT : cTx n b G) (hP : cPt pn pl G) (hi : -2147483648 ≤ i ∧ i < 2147483648) :
    CM yX11_pattern mX11_pattern 3 0 0 [vR 1, vI i] L G (pPatC L G pn pl i (zpr b n 0 0 (fun _ => 0))) := by
  refine Ct.of_X (μ := mX11_pattern) rfl rfl (by decide) (fun h => by cases h) (Nat.le_of_ble_eq_true rfl) rfl ?_
  by_cases g0 : 0 ≤ i ∧ i < 4
  · obtain ⟨i, rfl⟩ : ∃ j : Nat, i = j := ⟨i.toNat, by omega⟩
    have hx := pt_sd (i := i) (by omega)
    by_cases hz : zpo (zpr b n 0 0 (fun _ => 0)) = true
    · obtain ⟨p, hp, hp1⟩ := zpo_some hz
      have hpb := zpr_bd b n 0 0 (fun _ => 0) p (by decide) (fun j hj => absurd hj (Nat.not_lt_zero j)) hp
      refine x_iloadn (pc := 0) dX11_pattern_0 rfl ?_
      refine x_cSI (pc := 1) dX11_pattern_1 lk_X11_105 (c_ts_none hi) (⟨by decide, by decide⟩) (Nat.le_of_ble_eq_true rfl) rfl ?_
      rintro x G' ⟨rfl, rfl⟩
      refine x_ieq (tgt := 10) (pc := 4) dX11_pattern_4 (by decide) (by split <;> omega) (fun c_4 => ?_) (fun c_4 => ?_)
      rotate_left
      · skip
        exact absurd c_4 (by split <;> omega)
      refine x_aloadn (pc := 10) dX11_pattern_10 rfl ?_
      refine x_getR (2) (pc := 11) dX11_pattern_11 fl_X11_10 k_1 (hL 1 (by decide) (by decide)) (f_1_0 hF) ?_
      refine x_cVI (pc := 14) dX11_pattern_14 lk_X11_207 (c_Tx_os hL hF hT) k_2 ⟨by decide, rfl⟩ (hL 2 (by decide) (by decide)) (⟨by decide, by decide⟩) (Nat.le_of_ble_eq_true rfl) rfl ?_
      rintro x G' ⟨hx0, hG⟩
      subst hG
      rw [if_pos hz] at hx0
      subst hx0
      refine x_ine (tgt := 23) (pc := 17) dX11_pattern_17 (by decide) (by omega) (fun c_17 => ?_) (fun c_17 => ?_)
      rotate_left
      · skip
        exact absurd c_17 (by decide)
      refine x_aloadn (pc := 23) dX11_pattern_23 rfl ?_
      refine x_getR (2) (pc := 24) dX11_pattern_24 fl_X11_10 k_1 (hL 1 (by decide) (by decide)) (f_1_0 hF) ?_
      refine x_aloadn (pc := 27) dX11_pattern_27 rfl ?_
      refine x_getR (87) (pc := 28) dX11_pattern_28 fl_X11_52 k_1 (hL 1 (by decide) (by decide)) (f_1_6 hF) ?_
      refine x_iloadn (pc := 31) dX11_pattern_31 rfl ?_
      refine x_aald (101 + 7 * i) (i) (pc := 32) dX11_pattern_32 k_87 (by decide) (hL 87 (by decide) (by decide)) (⟨by omega, by omega, by decide⟩) (hF _ (pt_fl i (by omega))) ?_
      refine x_cVV (pc := 33) dX11_pattern_33 lk_X11_211 (c_Tx_ts (q := i) hx hL hF hT hp) k_2 ⟨by decide, rfl⟩ (hL 2 (by decide) (by decide)) (⟨by decide, by decide⟩) (Nat.le_of_ble_eq_true rfl) rfl ?_
      rintro G1 ⟨a1, a2, hF⟩
      refine x_aloadn (pc := 36) dX11_pattern_36 rfl ?_
      refine x_getR (2) (pc := 37) dX11_pattern_37 fl_X11_10 k_1 (hL 1 (by decide) (by decide)) (f_1_0 hF) ?_
      refine x_cVV (pc := 40) dX11_pattern_40 lk_X11_79 (c_Tx_empty hL hF) k_2 ⟨by decide, rfl⟩ (hL 2 (by decide) (by decide)) (⟨by decide, by decide⟩) (Nat.le_of_ble_eq_true rfl) rfl ?_
      rintro G2 ⟨b1, b2, hF⟩
      refine x_aloadn (pc := 43) dX11_pattern_43 rfl ?_
      refine x_getR (87) (pc := 44) dX11_pattern_44 fl_X11_52 k_1 (hL 1 (by decide) (by decide)) (f_1_6 hF) ?_
      refine x_iloadn (pc := 47) dX11_pattern_47 rfl ?_
      refine x_aald (101 + 7 * i) (i) (pc := 48) dX11_pattern_48 k_87 (by decide) (hL 87 (by decide) (by decide)) (⟨by omega, by omega, by decide⟩) (hF _ (pt_fl i (by omega))) ?_
      refine x_cVI (pc := 49) dX11_pattern_49 lk_X11_215 (c_Sd_length hx hL (a1.FR b2 (by simp <;> omega) (by simp <;> omega) (by simp <;> omega))) (sd_k hx).1 ⟨by decide, rfl⟩ (sd_m hx hL 0 (by decide)) (⟨by decide, by decide⟩) (Nat.le_of_ble_eq_true rfl) rfl ?_
      rintro x G' ⟨rfl, rfl⟩
      refine x_rI (pc := 52) dX11_pattern_52 rfl ?_
      refine Or.inr (Or.inr ⟨g0, hz, p, hp, rfl, fun q hq => ?_, b1, (a2.q (by simp <;> omega)).tr (b2.q (by simp)), hF⟩)
      rw [Int.toNat_natCast]
      by_cases c : q = i
      · subst c
        rw [zup_s]
        exact (a1.cg (p := q) (J := zup pl q p.2) (fun _ => rfl) (fun _ => rfl) (fun _ => rfl) (fun j _ => by rw [zup_s])).FR b2 (by simp <;> omega) (by simp <;> omega) (by simp <;> omega)
      · rw [zup_n c]
        exact (((hP q hq).cg (p := q) (J := zup pl i p.2) (fun _ => rfl) (fun _ => rfl) (fun _ => rfl) (fun j _ => by rw [zup_n c])).FR a2 (by simp <;> omega) (by simp <;> omega) (by simp <;> omega)).FR b2 (by simp <;> omega) (by simp <;> omega) (by simp <;> omega)
    · skip
      refine x_iloadn (pc := 0) dX11_pattern_0 rfl ?_
      refine x_cSI (pc := 1) dX11_pattern_1 lk_X11_105 (c_ts_none hi) (⟨by decide, by decide⟩) (Nat.le_of_ble_eq_true rfl) rfl ?_
      rintro x G' ⟨rfl, rfl⟩
      refine x_ieq (tgt := 10) (pc := 4) dX11_pattern_4 (by decide) (by split <;> omega) (fun c_4 => ?_) (fun c_4 => ?_)
      rotate_left
      · skip
        exact absurd c_4 (by split <;> omega)
      refine x_aloadn (pc := 10) dX11_pattern_10 rfl ?_
      refine x_getR (2) (pc := 11) dX11_pattern_11 fl_X11_10 k_1 (hL 1 (by decide) (by decide)) (f_1_0 hF) ?_
      refine x_cVI (pc := 14) dX11_pattern_14 lk_X11_207 (c_Tx_os hL hF hT) k_2 ⟨by decide, rfl⟩ (hL 2 (by decide) (by decide)) (⟨by decide, by decide⟩) (Nat.le_of_ble_eq_true rfl) rfl ?_
      rintro x G' ⟨hx0, hG⟩
      subst hG
      rw [if_neg hz] at hx0
      subst hx0
      refine x_ine (tgt := 23) (pc := 17) dX11_pattern_17 (by decide) (by omega) (fun c_17 => ?_) (fun c_17 => ?_)
      · skip
        exact absurd rfl c_17
      refine x_bipush (pc := 20) dX11_pattern_20 (by decide) ?_
      refine x_rI (pc := 22) dX11_pattern_22 rfl ?_
      exact Or.inr (Or.inl ⟨g0, by rw [← Bool.not_eq_true]; exact hz, rfl, rfl⟩)
  · skip
    refine x_iloadn (pc := 0) dX11_pattern_0 rfl ?_
    refine x_cSI (pc := 1) dX11_pattern_1 lk_X11_105 (c_ts_none hi) (⟨by decide, by decide⟩) (Nat.le_of_ble_eq_true rfl) rfl ?_
    rintro x G' ⟨rfl, rfl⟩
    refine x_ieq (tgt := 10) (pc := 4) dX11_pattern_4 (by decide) (by split <;> omega) (fun c_4 => ?_) (fun c_4 => ?_)
    · skip
      exact absurd c_4 (by split <;> omega)
    refine x_bipush (pc := 7) dX11_pattern_7 (by decide) ?_
    refine x_rI (pc := 9) dX11_pattern_9 rfl ?_
    exact Or.inl ⟨g0, rfl, rfl⟩

