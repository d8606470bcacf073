/-! the reference: makes, carries -/
section XMK
variable {dn pn : Nat → Nat} {dl pl : Nat → Nat → Nat} {L : List Nat}
theorem l_mo_lay {i : Nat} {G0 : Nat → Nat → Int} (hL : x_SL L) (hP : mPt pn pl G0) (hi : i < 4) :
    ∀ (r k : Nat) (G : Nat → Nat → Int), k + r = pn i → G 127 50 = pn i → (∀ j, j < k → G 164 j = pl i j) → FM [164] [50] G0 G → x_Fin xFL G →
    X mX12_layForm 0 0 0 (qV L fun G' => G' 127 50 = pn i ∧ (∀ j, j < pn i → G' 164 j = pl i j) ∧ FM [164] [50] G0 G' ∧ x_Fin xFL G') 12 [some (vR 127), some (vI i), some (vI k)] [] L G 0 0 := by
  obtain ⟨p1, p2, p3⟩ := hP i hi
  intro r
  induction r with
  | zero =>
    intro k G hk hn h hQ hF
    have hk : k = pn i := by omega
    subst hk
    refine x_iloadn (pc := 12) dX12_layForm_12 rfl ?_
    refine x_aloadn (pc := 13) dX12_layForm_13 rfl ?_
    refine x_getI (pc := 14) dX12_layForm_14 fl_X12_328 k_127 (hL 127 (by decide) (by decide)) ?_
    refine x_cge (tgt := 43) (pc := 17) dX12_layForm_17 (by decide) (by omega) (fun c_17 => ?_) (fun c_17 => ?_)
    rotate_left
    · skip
      exact absurd c_17 (by omega)
    refine x_rV (pc := 43) dX12_layForm_43 rfl ?_
    exact ⟨hn, h, hQ, hF⟩
  | succ r ih =>
    intro k G hk hn h hQ hF
    have hpl : G 138 (12 * i + k) = pl i k := by rw [hQ.at 138 (12 * i + k) (by decide) (fun w => absurd w (by decide))]; exact (p3 k (by omega)).1
    refine x_iloadn (pc := 12) dX12_layForm_12 rfl ?_
    refine x_aloadn (pc := 13) dX12_layForm_13 rfl ?_
    refine x_getI (pc := 14) dX12_layForm_14 fl_X12_328 k_127 (hL 127 (by decide) (by decide)) ?_
    refine x_cge (tgt := 43) (pc := 17) dX12_layForm_17 (by decide) (by omega) (fun c_17 => ?_) (fun c_17 => ?_)
    · skip
      exact absurd c_17 (by omega)
    refine x_aloadn (pc := 20) dX12_layForm_20 rfl ?_
    refine x_getR (164) (pc := 21) dX12_layForm_21 fl_X12_120 k_127 (hL 127 (by decide) (by decide)) (f_127_49 hF) ?_
    refine x_iloadn (pc := 24) dX12_layForm_24 rfl ?_
    refine x_aloadn (pc := 25) dX12_layForm_25 rfl ?_
    refine x_getR (138) (pc := 26) dX12_layForm_26 fl_X12_40 k_127 (hL 127 (by decide) (by decide)) (f_127_13 hF) ?_
    refine x_bipush (pc := 29) dX12_layForm_29 (by decide) ?_
    refine x_iloadn (pc := 31) dX12_layForm_31 rfl ?_
    refine x_imul (pc := 32) dX12_layForm_32 ?_
    refine x_iloadn (pc := 33) dX12_layForm_33 rfl ?_
    refine x_iadd (pc := 34) dX12_layForm_34 ?_
    refine x_iald (12 * i + k) (pc := 35) dX12_layForm_35 k_138 (hL 138 (by decide) (by decide)) (⟨by omega, by omega, by decide⟩) ?_
    rw [hpl]
    refine x_iastF (k) (pc := 36) dX12_layForm_36 k_164 (hL 164 (by decide) (by decide)) (⟨by omega, by omega, by decide⟩) hF (fun hF => ?_)
    refine x_iinc (pc := 37) dX12_layForm_37 rfl (by decide) rfl ?_
    refine x_goto (tgt := 12) (pc := 40) dX12_layForm_40 (by decide) ?_
    refine ih (k + 1) _ (by omega) (by rw [x_up_ne (by decide)]; exact hn) (fun j hj => ?_) (hQ.upA (by decide)) hF
    by_cases e : j = k
    · subst e; exact x_up_s
    · rw [x_up_k e]; exact h j (by omega)
theorem c_mo_lay {i : Nat} {G : Nat → Nat → Int} (hL : x_SL L) (hF : x_Fin xFL G) (hP : mPt pn pl G) (hi : i < 4) :
    CM yX12_layForm mX12_layForm 0 0 0 [vR 127, vI i] L G (qV L fun G' => G' 127 50 = pn i ∧ (∀ j, j < pn i → G' 164 j = pl i j) ∧ FM [164] [50] G G' ∧ x_Fin xFL G') := by
  obtain ⟨p1, p2, p3⟩ := hP i hi
  refine Ct.of_X (μ := mX12_layForm) rfl rfl (by decide) (fun h => by cases h) (Nat.le_of_ble_eq_true rfl) rfl ?_
  refine x_aloadn (pc := 0) dX12_layForm_0 rfl ?_
  refine x_aloadn (pc := 1) dX12_layForm_1 rfl ?_
  refine x_getR (139) (pc := 2) dX12_layForm_2 fl_X12_43 k_127 (hL 127 (by decide) (by decide)) (f_127_14 hF) ?_
  refine x_iloadn (pc := 5) dX12_layForm_5 rfl ?_
  refine x_iald (i) (pc := 6) dX12_layForm_6 k_139 (hL 139 (by decide) (by decide)) (⟨by omega, by omega, by decide⟩) ?_
  rw [p1]
  refine x_putIF (pc := 7) dX12_layForm_7 fp_X12_328 k_127 (hL 127 (by decide) (by decide)) hF (fun hF => ?_)
  refine x_iconst (pc := 10) dX12_layForm_10 ?_
  refine x_istoren (pc := 11) dX12_layForm_11 rfl (by decide) rfl ?_
  exact l_mo_lay hL hP hi (pn i) 0 _ (by omega) x_up_s (fun j hj => absurd hj (Nat.not_lt_zero j)) (FM.rf.upF (by decide)) hF
abbrev zMkS : List Nat := [164, 163, 165, 166]
theorem mGo.up {n m k : Nat} {I : Nat → Nat → Nat} {q : Nat} {R : Nat → Nat} {G : Nat → Nat → Int} {z : Int} (h1 : G 127 50 = n) (h2 : n ≤ 12) (h3 : ∀ j, j < n → G 164 j = I q j ∧ zV (I q j)) (h4 : G 127 48 = m) (h5 : m ≤ 30) (h6 : ∀ j, j < m → G 163 j = R j ∧ R j < 8) : mGo n I q m R G := ⟨h1, h2, h3, h4, h5, h6⟩
theorem l_mo_mk {i w : Nat} {G0 : Nat → Nat → Int} (hL : x_SL L) (hD : mDk dn dl G0) (hP : mPt pn pl G0) (hi : i < 4) (hw : w < 4) (hn0 : pn i ≠ 0) :
    ∀ (r k : Nat) (G : Nat → Nat → Int), k + r = dn w → G 127 50 = pn i → (∀ j, j < pn i → G 164 j = pl i j) → G 127 48 = dn w → (∀ j, j < k → G 163 j = dl w j) → FM zMkS [50, 48] G0 G → x_Fin xFL G →
    X mX12_makes 2 0 0 (qI L fun x G' => x = (zWays (pn i) pl i (dn w) (dl w) : Int) ∧ FM zMkS [50, 48] G0 G' ∧ x_Fin xFL G') 46 [some (vR 127), some (vI i), some (vI w), some (vI k)] [] L G 0 0 := by
  obtain ⟨p1, p2, p3⟩ := hP i hi
  obtain ⟨d1, d2, d3⟩ := hD w hw
  intro r
  induction r with
  | zero =>
    intro k G hk h1 h2 h3 h4 hQ hF
    have hk : k = dn w := by omega
    subst hk
    refine x_iloadn (pc := 46) dX12_makes_46 rfl ?_
    refine x_aloadn (pc := 47) dX12_makes_47 rfl ?_
    refine x_getI (pc := 48) dX12_makes_48 fl_X12_331 k_127 (hL 127 (by decide) (by decide)) ?_
    refine x_cge (tgt := 77) (pc := 51) dX12_makes_51 (by decide) (by omega) (fun c_51 => ?_) (fun c_51 => ?_)
    rotate_left
    · skip
      exact absurd c_51 (by omega)
    refine x_aloadn (pc := 77) dX12_makes_77 rfl ?_
    refine x_cVI (pc := 78) dX12_makes_78 lk_X12_346 (c_mo_waysOf (n := pn i) (I := pl) (q := i) (m := dn w) (R := dl w) hL hF ⟨h1, p2, fun j hj => ⟨h2 j hj, (p3 j hj).2⟩, h3, d2, fun j hj => ⟨h4 j hj, by have := (d3 j hj).2; omega⟩⟩) k_127 ⟨by decide, rfl⟩ (hL 127 (by decide) (by decide)) (⟨by decide, by decide⟩) (Nat.le_of_ble_eq_true rfl) rfl ?_
    rintro x G' ⟨rfl, a2, hF⟩
    refine x_rI (pc := 81) dX12_makes_81 rfl ?_
    exact ⟨rfl, hQ.tr (a2.mono (by decide) (by decide)), hF⟩
  | succ r ih =>
    intro k G hk h1 h2 h3 h4 hQ hF
    have hdl : G 136 (30 * w + k) = dl w k := by rw [hQ.at 136 (30 * w + k) (by decide) (fun w => absurd w (by decide))]; exact (d3 k (by omega)).1
    refine x_iloadn (pc := 46) dX12_makes_46 rfl ?_
    refine x_aloadn (pc := 47) dX12_makes_47 rfl ?_
    refine x_getI (pc := 48) dX12_makes_48 fl_X12_331 k_127 (hL 127 (by decide) (by decide)) ?_
    refine x_cge (tgt := 77) (pc := 51) dX12_makes_51 (by decide) (by omega) (fun c_51 => ?_) (fun c_51 => ?_)
    · skip
      exact absurd c_51 (by omega)
    refine x_aloadn (pc := 54) dX12_makes_54 rfl ?_
    refine x_getR (163) (pc := 55) dX12_makes_55 fl_X12_117 k_127 (hL 127 (by decide) (by decide)) (f_127_47 hF) ?_
    refine x_iloadn (pc := 58) dX12_makes_58 rfl ?_
    refine x_aloadn (pc := 59) dX12_makes_59 rfl ?_
    refine x_getR (136) (pc := 60) dX12_makes_60 fl_X12_34 k_127 (hL 127 (by decide) (by decide)) (f_127_11 hF) ?_
    refine x_bipush (pc := 63) dX12_makes_63 (by decide) ?_
    refine x_iloadn (pc := 65) dX12_makes_65 rfl ?_
    refine x_imul (pc := 66) dX12_makes_66 ?_
    refine x_iloadn (pc := 67) dX12_makes_67 rfl ?_
    refine x_iadd (pc := 68) dX12_makes_68 ?_
    refine x_iald (30 * w + k) (pc := 69) dX12_makes_69 k_136 (hL 136 (by decide) (by decide)) (⟨by omega, by omega, by decide⟩) ?_
    rw [hdl]
    refine x_iastF (k) (pc := 70) dX12_makes_70 k_163 (hL 163 (by decide) (by decide)) (⟨by omega, by omega, by decide⟩) hF (fun hF => ?_)
    refine x_iinc (pc := 71) dX12_makes_71 rfl (by decide) rfl ?_
    refine x_goto (tgt := 46) (pc := 74) dX12_makes_74 (by decide) ?_
    refine ih (k + 1) _ (by omega) (by rw [x_up_ne (by decide)]; exact h1) (fun j hj => by rw [x_up_ne (by decide)]; exact h2 j hj) (by rw [x_up_ne (by decide)]; exact h3) (fun j hj => ?_) (hQ.upA (by decide)) hF
    by_cases e : j = k
    · subst e; exact x_up_s
    · rw [x_up_k e]; exact h4 j (by omega)
theorem c_mo_makes {i j : Int} {G : Nat → Nat → Int} (hL : x_SL L) (hF : x_Fin xFL G) (hD : mDk dn dl G) (hP : mPt pn pl G) (hi : -2147483648 ≤ i ∧ i < 2147483648) (hj : -2147483648 ≤ j ∧ j < 2147483648) :
    CM yX12_makes mX12_makes 2 0 0 [vR 127, vI i, vI j] L G (qI L fun x G' => x = (if ¬ ((0 ≤ i ∧ i < 4) ∧ 0 ≤ j ∧ j < 4) then -2 else if pn i.toNat = 0 then -4 else (zWays (pn i.toNat) pl i.toNat (dn j.toNat) (dl j.toNat) : Int)) ∧ FM zMkS [50, 48] G G' ∧ x_Fin xFL G') := by
  refine Ct.of_X (μ := mX12_makes) rfl rfl (by decide) (fun h => by cases h) (Nat.le_of_ble_eq_true rfl) rfl ?_
  refine x_iloadn (pc := 0) dX12_makes_0 rfl ?_
  refine x_cSI (pc := 1) dX12_makes_1 lk_X12_325 (c_mo_isPattern hi) (⟨by decide, by decide⟩) (Nat.le_of_ble_eq_true rfl) rfl ?_
  rintro x G' ⟨rfl, rfl⟩
  refine x_ieq (tgt := 14) (pc := 4) dX12_makes_4 (by decide) (by split <;> omega) (fun c_4 => ?_) (fun c_4 => ?_)
  · skip
    refine x_bipush (pc := 14) dX12_makes_14 (by decide) ?_
    refine x_rI (pc := 16) dX12_makes_16 rfl ?_
    refine ⟨?_, FM.rf, hF⟩
    rw [if_pos]
    first | (split at c_4 <;> omega; done) | (split at c_11 <;> omega; done)
  · skip
    refine x_iloadn (pc := 7) dX12_makes_7 rfl ?_
    refine x_cSI (pc := 8) dX12_makes_8 lk_X12_286 (c_mo_isWord hj) (⟨by decide, by decide⟩) (Nat.le_of_ble_eq_true rfl) rfl ?_
    rintro x G' ⟨rfl, rfl⟩
    refine x_ine (tgt := 17) (pc := 11) dX12_makes_11 (by decide) (by split <;> omega) (fun c_11 => ?_) (fun c_11 => ?_)
    · skip
      have g0 : 0 ≤ i ∧ i < 4 := by split at c_4 <;> omega
      have g1 : 0 ≤ j ∧ j < 4 := by split at c_11 <;> omega
      rw [if_neg (by omega)]
      obtain ⟨i, rfl⟩ : ∃ k : Nat, i = k := ⟨i.toNat, by omega⟩
      obtain ⟨j, rfl⟩ : ∃ k : Nat, j = k := ⟨j.toNat, by omega⟩
      rw [Int.toNat_natCast, Int.toNat_natCast]
      obtain ⟨p1, p2, p3⟩ := hP i (by omega)
      refine x_aloadn (pc := 17) dX12_makes_17 rfl ?_
      refine x_getR (139) (pc := 18) dX12_makes_18 fl_X12_43 k_127 (hL 127 (by decide) (by decide)) (f_127_14 hF) ?_
      refine x_iloadn (pc := 21) dX12_makes_21 rfl ?_
      refine x_iald (i) (pc := 22) dX12_makes_22 k_139 (hL 139 (by decide) (by decide)) (⟨by omega, by omega, by decide⟩) ?_
      rw [p1]
      refine x_ine (tgt := 29) (pc := 23) dX12_makes_23 (by decide) (by omega) (fun c_23 => ?_) (fun c_23 => ?_)
      · skip
        refine x_aloadn (pc := 29) dX12_makes_29 rfl ?_
        refine x_iloadn (pc := 30) dX12_makes_30 rfl ?_
        refine x_cVV (pc := 31) dX12_makes_31 lk_X12_343 (c_mo_lay hL hF hP (i := i) (by omega)) k_127 ⟨by decide, rfl⟩ (hL 127 (by decide) (by decide)) (⟨by decide, by decide⟩) (Nat.le_of_ble_eq_true rfl) rfl ?_
        rintro G1 ⟨a1, a2, a3, hF⟩
        have hd1 : G1 137 j = dn j := by rw [a3.at 137 j (by decide) (fun w => absurd w (by decide))]; exact (hD j (by omega)).1
        refine x_aloadn (pc := 34) dX12_makes_34 rfl ?_
        refine x_aloadn (pc := 35) dX12_makes_35 rfl ?_
        refine x_getR (137) (pc := 36) dX12_makes_36 fl_X12_37 k_127 (hL 127 (by decide) (by decide)) (f_127_12 hF) ?_
        refine x_iloadn (pc := 39) dX12_makes_39 rfl ?_
        refine x_iald (j) (pc := 40) dX12_makes_40 k_137 (hL 137 (by decide) (by decide)) (⟨by omega, by omega, by decide⟩) ?_
        rw [hd1]
        refine x_putIF (pc := 41) dX12_makes_41 fp_X12_331 k_127 (hL 127 (by decide) (by decide)) hF (fun hF => ?_)
        refine x_iconst (pc := 44) dX12_makes_44 ?_
        refine x_istoren (pc := 45) dX12_makes_45 rfl (by decide) rfl ?_
        rw [if_neg (by omega)]
        exact l_mo_mk hL hD hP (by omega) (by omega) (by omega) (dn j) 0 _ (by omega) (by rw [x_up_k (by decide)]; exact a1) (fun j hj => by rw [x_up_ne (by decide)]; exact a2 j hj) x_up_s (fun j hj => absurd hj (Nat.not_lt_zero j)) ((a3.mono (by decide) (by decide)).upF (by decide)) hF
      · skip
        refine x_bipush (pc := 26) dX12_makes_26 (by decide) ?_
        refine x_rI (pc := 28) dX12_makes_28 rfl ?_
        exact ⟨by rw [if_pos (by omega)], FM.rf, hF⟩
    · skip
      refine x_bipush (pc := 14) dX12_makes_14 (by decide) ?_
      refine x_rI (pc := 16) dX12_makes_16 rfl ?_
      refine ⟨?_, FM.rf, hF⟩
      rw [if_pos]
      first | (split at c_4 <;> omega; done) | (split at c_11 <;> omega; done)
theorem l_mo_cy {i w : Nat} {G0 : Nat → Nat → Int} (hL : x_SL L) (hP : mPt pn pl G0) (hi : i < 4) (hw : w < 4) :
    ∀ (r k : Nat) (G : Nat → Nat → Int), k + r = pn w → G 127 50 = pn i → (∀ j, j < pn i → G 164 j = pl i j) → G 127 48 = pn w → (∀ j, j < k → G 163 j = pl w j) → FM zMkS [50, 48] G0 G → x_Fin xFL G →
    X mX12_carries 2 0 0 (qI L fun x G' => x = (if 0 < zWays (pn i) pl i (pn w) (pl w) then 1 else 0) ∧ FM zMkS [50, 48] G0 G' ∧ x_Fin xFL G') 55 [some (vR 127), some (vI i), some (vI w), some (vI k)] [] L G 0 0 := by
  obtain ⟨p1, p2, p3⟩ := hP i hi
  obtain ⟨d1, d2, d3⟩ := hP w hw
  have hb : zWays (pn i) pl i (pn w) (pl w) ≤ 923521 := zPc_le _
  intro r
  induction r with
  | zero =>
    intro k G hk h1 h2 h3 h4 hQ hF
    have hk : k = pn w := by omega
    subst hk
    refine x_iloadn (pc := 55) dX12_carries_55 rfl ?_
    refine x_aloadn (pc := 56) dX12_carries_56 rfl ?_
    refine x_getI (pc := 57) dX12_carries_57 fl_X12_331 k_127 (hL 127 (by decide) (by decide)) ?_
    refine x_cge (tgt := 86) (pc := 60) dX12_carries_60 (by decide) (by omega) (fun c_60 => ?_) (fun c_60 => ?_)
    rotate_left
    · skip
      exact absurd c_60 (by omega)
    refine x_aloadn (pc := 86) dX12_carries_86 rfl ?_
    refine x_cVI (pc := 87) dX12_carries_87 lk_X12_346 (c_mo_waysOf (n := pn i) (I := pl) (q := i) (m := pn w) (R := pl w) hL hF ⟨h1, p2, fun j hj => ⟨h2 j hj, (p3 j hj).2⟩, h3, by omega, fun j hj => ⟨h4 j hj, by have := (d3 j hj).2.1; omega⟩⟩) k_127 ⟨by decide, rfl⟩ (hL 127 (by decide) (by decide)) (⟨by decide, by decide⟩) (Nat.le_of_ble_eq_true rfl) rfl ?_
    rintro x G' ⟨rfl, a2, hF⟩
    refine x_ile (tgt := 97) (pc := 90) dX12_carries_90 (by decide) (by omega) (fun c_90 => ?_) (fun c_90 => ?_)
    · skip
      refine x_iconst (pc := 97) dX12_carries_97 ?_
      refine x_rI (pc := 98) dX12_carries_98 rfl ?_
      exact ⟨by first | (rw [if_pos (by omega)]; done) | (rw [if_neg (by omega)]; done), hQ.tr (a2.mono (by decide) (by decide)), hF⟩
    · skip
      refine x_iconst (pc := 93) dX12_carries_93 ?_
      refine x_goto (tgt := 98) (pc := 94) dX12_carries_94 (by decide) ?_
      refine x_rI (pc := 98) dX12_carries_98 rfl ?_
      exact ⟨by first | (rw [if_pos (by omega)]; done) | (rw [if_neg (by omega)]; done), hQ.tr (a2.mono (by decide) (by decide)), hF⟩
  | succ r ih =>
    intro k G hk h1 h2 h3 h4 hQ hF
    have hdl : G 138 (12 * w + k) = pl w k := by rw [hQ.at 138 (12 * w + k) (by decide) (fun w => absurd w (by decide))]; exact (d3 k (by omega)).1
    refine x_iloadn (pc := 55) dX12_carries_55 rfl ?_
    refine x_aloadn (pc := 56) dX12_carries_56 rfl ?_
    refine x_getI (pc := 57) dX12_carries_57 fl_X12_331 k_127 (hL 127 (by decide) (by decide)) ?_
    refine x_cge (tgt := 86) (pc := 60) dX12_carries_60 (by decide) (by omega) (fun c_60 => ?_) (fun c_60 => ?_)
    · skip
      exact absurd c_60 (by omega)
    refine x_aloadn (pc := 63) dX12_carries_63 rfl ?_
    refine x_getR (163) (pc := 64) dX12_carries_64 fl_X12_117 k_127 (hL 127 (by decide) (by decide)) (f_127_47 hF) ?_
    refine x_iloadn (pc := 67) dX12_carries_67 rfl ?_
    refine x_aloadn (pc := 68) dX12_carries_68 rfl ?_
    refine x_getR (138) (pc := 69) dX12_carries_69 fl_X12_40 k_127 (hL 127 (by decide) (by decide)) (f_127_13 hF) ?_
    refine x_bipush (pc := 72) dX12_carries_72 (by decide) ?_
    refine x_iloadn (pc := 74) dX12_carries_74 rfl ?_
    refine x_imul (pc := 75) dX12_carries_75 ?_
    refine x_iloadn (pc := 76) dX12_carries_76 rfl ?_
    refine x_iadd (pc := 77) dX12_carries_77 ?_
    refine x_iald (12 * w + k) (pc := 78) dX12_carries_78 k_138 (hL 138 (by decide) (by decide)) (⟨by omega, by omega, by decide⟩) ?_
    rw [hdl]
    refine x_iastF (k) (pc := 79) dX12_carries_79 k_163 (hL 163 (by decide) (by decide)) (⟨by omega, by omega, by decide⟩) hF (fun hF => ?_)
    refine x_iinc (pc := 80) dX12_carries_80 rfl (by decide) rfl ?_
    refine x_goto (tgt := 55) (pc := 83) dX12_carries_83 (by decide) ?_
    refine ih (k + 1) _ (by omega) (by rw [x_up_ne (by decide)]; exact h1) (fun j hj => by rw [x_up_ne (by decide)]; exact h2 j hj) (by rw [x_up_ne (by decide)]; exact h3) (fun j hj => ?_) (hQ.upA (by decide)) hF
    by_cases e : j = k
    · subst e; exact x_up_s
    · rw [x_up_k e]; exact h4 j (by omega)
theorem c_mo_carries {i j : Int} {G : Nat → Nat → Int} (hL : x_SL L) (hF : x_Fin xFL G) (hP : mPt pn pl G) (hi : -2147483648 ≤ i ∧ i < 2147483648) (hj : -2147483648 ≤ j ∧ j < 2147483648) :
    CM yX12_carries mX12_carries 2 0 0 [vR 127, vI i, vI j] L G (qI L fun x G' => x = (if ¬ ((0 ≤ i ∧ i < 4) ∧ 0 ≤ j ∧ j < 4) then -2 else if pn i.toNat = 0 ∨ pn j.toNat = 0 then -4 else if 0 < zWays (pn i.toNat) pl i.toNat (pn j.toNat) (pl j.toNat) then 1 else 0) ∧ FM zMkS [50, 48] G G' ∧ x_Fin xFL G') := by
  refine Ct.of_X (μ := mX12_carries) rfl rfl (by decide) (fun h => by cases h) (Nat.le_of_ble_eq_true rfl) rfl ?_
  refine x_iloadn (pc := 0) dX12_carries_0 rfl ?_
  refine x_cSI (pc := 1) dX12_carries_1 lk_X12_325 (c_mo_isPattern hi) (⟨by decide, by decide⟩) (Nat.le_of_ble_eq_true rfl) rfl ?_
  rintro x G' ⟨rfl, rfl⟩
  refine x_ieq (tgt := 14) (pc := 4) dX12_carries_4 (by decide) (by split <;> omega) (fun c_4 => ?_) (fun c_4 => ?_)
  · skip
    refine x_bipush (pc := 14) dX12_carries_14 (by decide) ?_
    refine x_rI (pc := 16) dX12_carries_16 rfl ?_
    refine ⟨?_, FM.rf, hF⟩
    rw [if_pos]
    first | (split at c_4 <;> omega; done) | (split at c_11 <;> omega; done)
  · skip
    refine x_iloadn (pc := 7) dX12_carries_7 rfl ?_
    refine x_cSI (pc := 8) dX12_carries_8 lk_X12_325 (c_mo_isPattern hj) (⟨by decide, by decide⟩) (Nat.le_of_ble_eq_true rfl) rfl ?_
    rintro x G' ⟨rfl, rfl⟩
    refine x_ine (tgt := 17) (pc := 11) dX12_carries_11 (by decide) (by split <;> omega) (fun c_11 => ?_) (fun c_11 => ?_)
    · skip
      have g0 : 0 ≤ i ∧ i < 4 := by split at c_4 <;> omega
      have g1 : 0 ≤ j ∧ j < 4 := by split at c_11 <;> omega
      rw [if_neg (by omega)]
      obtain ⟨i, rfl⟩ : ∃ k : Nat, i = k := ⟨i.toNat, by omega⟩
      obtain ⟨j, rfl⟩ : ∃ k : Nat, j = k := ⟨j.toNat, by omega⟩
      rw [Int.toNat_natCast, Int.toNat_natCast]
      obtain ⟨p1, p2, p3⟩ := hP i (by omega)
      obtain ⟨d1, d2, d3⟩ := hP j (by omega)
      refine x_aloadn (pc := 17) dX12_carries_17 rfl ?_
      refine x_getR (139) (pc := 18) dX12_carries_18 fl_X12_43 k_127 (hL 127 (by decide) (by decide)) (f_127_14 hF) ?_
      refine x_iloadn (pc := 21) dX12_carries_21 rfl ?_
      refine x_iald (i) (pc := 22) dX12_carries_22 k_139 (hL 139 (by decide) (by decide)) (⟨by omega, by omega, by decide⟩) ?_
      rw [p1]
      refine x_ieq (tgt := 35) (pc := 23) dX12_carries_23 (by decide) (by omega) (fun c_23 => ?_) (fun c_23 => ?_)
      · skip
        refine x_bipush (pc := 35) dX12_carries_35 (by decide) ?_
        refine x_rI (pc := 37) dX12_carries_37 rfl ?_
        exact ⟨by rw [if_pos (by omega)], FM.rf, hF⟩
      · skip
        refine x_aloadn (pc := 26) dX12_carries_26 rfl ?_
        refine x_getR (139) (pc := 27) dX12_carries_27 fl_X12_43 k_127 (hL 127 (by decide) (by decide)) (f_127_14 hF) ?_
        refine x_iloadn (pc := 30) dX12_carries_30 rfl ?_
        refine x_iald (j) (pc := 31) dX12_carries_31 k_139 (hL 139 (by decide) (by decide)) (⟨by omega, by omega, by decide⟩) ?_
        rw [d1]
        refine x_ine (tgt := 38) (pc := 32) dX12_carries_32 (by decide) (by omega) (fun c_32 => ?_) (fun c_32 => ?_)
        · skip
          refine x_aloadn (pc := 38) dX12_carries_38 rfl ?_
          refine x_iloadn (pc := 39) dX12_carries_39 rfl ?_
          refine x_cVV (pc := 40) dX12_carries_40 lk_X12_343 (c_mo_lay hL hF hP (i := i) (by omega)) k_127 ⟨by decide, rfl⟩ (hL 127 (by decide) (by decide)) (⟨by decide, by decide⟩) (Nat.le_of_ble_eq_true rfl) rfl ?_
          rintro G1 ⟨a1, a2, a3, hF⟩
          have hd1 : G1 139 j = pn j := by rw [a3.at 139 j (by decide) (fun w => absurd w (by decide))]; exact d1
          refine x_aloadn (pc := 43) dX12_carries_43 rfl ?_
          refine x_aloadn (pc := 44) dX12_carries_44 rfl ?_
          refine x_getR (139) (pc := 45) dX12_carries_45 fl_X12_43 k_127 (hL 127 (by decide) (by decide)) (f_127_14 hF) ?_
          refine x_iloadn (pc := 48) dX12_carries_48 rfl ?_
          refine x_iald (j) (pc := 49) dX12_carries_49 k_139 (hL 139 (by decide) (by decide)) (⟨by omega, by omega, by decide⟩) ?_
          rw [hd1]
          refine x_putIF (pc := 50) dX12_carries_50 fp_X12_331 k_127 (hL 127 (by decide) (by decide)) hF (fun hF => ?_)
          refine x_iconst (pc := 53) dX12_carries_53 ?_
          refine x_istoren (pc := 54) dX12_carries_54 rfl (by decide) rfl ?_
          rw [if_neg (by omega)]
          exact l_mo_cy hL hP (by omega) (by omega) (pn j) 0 _ (by omega) (by rw [x_up_k (by decide)]; exact a1) (fun j hj => by rw [x_up_ne (by decide)]; exact a2 j hj) x_up_s (fun j hj => absurd hj (Nat.not_lt_zero j)) ((a3.mono (by decide) (by decide)).upF (by decide)) hF
        · skip
          refine x_bipush (pc := 35) dX12_carries_35 (by decide) ?_
          refine x_rI (pc := 37) dX12_carries_37 rfl ?_
          exact ⟨by rw [if_pos (by omega)], FM.rf, hF⟩
    · skip
      refine x_bipush (pc := 14) dX12_carries_14 (by decide) ?_
      refine x_rI (pc := 16) dX12_carries_16 rfl ?_
      refine ⟨?_, FM.rf, hF⟩
      rw [if_pos]
      first | (split at c_4 <;> omega; done) | (split at c_11 <;> omega; done)
end XMK

