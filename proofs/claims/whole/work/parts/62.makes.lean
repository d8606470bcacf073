/-! the class: makes, carries -/
abbrev zPScr : List Nat := [104, 105, 111, 112, 118, 119, 125, 126]
theorem pscr {i : Nat} (h : i < 4) : ∀ k, k ∈ [101 + 7 * i + 3, 101 + 7 * i + 4] → k ∈ zPScr := by
  rcases (show i = 0 ∨ i = 1 ∨ i = 2 ∨ i = 3 by omega) with rfl | rfl | rfl | rfl <;> decide
theorem c_Wd_ways {r1 r2 n m : Nat} {I : Nat → Nat → Nat} {q : Nat} {f : Nat → Nat} {L : List Nat} {G : Nat → Nat → Int} (h1 : xWd r1) (h : xSd r2) (hne : r1 + 1 ≠ r2 + 4 ∧ r1 + 1 ≠ r2 + 3) (hL : x_SL L) (hF : x_Fin xFL G) (hW : cWd r1 m f G) (hS : cSd r2 n I q G) :
    CM yX10_waysBy mX10_waysBy 3 0 0 [vR r1, vR r2] L G (qI L fun x G' => x = zWays n I q m f ∧ FR [r2 + 3, r2 + 4] G G' ∧ x_Fin xFL G') := by
  obtain ⟨w1, w2, w3⟩ := hW
  refine Ct.of_X (μ := mX10_waysBy) rfl rfl (by decide) (fun h => by cases h) (Nat.le_of_ble_eq_true rfl) rfl ?_
  refine x_aloadn (pc := 0) dX10_waysBy_0 rfl ?_
  refine x_aloadn (pc := 1) dX10_waysBy_1 rfl ?_
  refine x_getR (r1 + 1) (pc := 2) dX10_waysBy_2 fl_X10_11 (wd_k h1).1 (wd_m h1 hL 0 (by decide)) (wd_f0 h1 hF) ?_
  refine x_aloadn (pc := 5) dX10_waysBy_5 rfl ?_
  refine x_getI (pc := 6) dX10_waysBy_6 fl_X10_15 (wd_k h1).1 (wd_m h1 hL 0 (by decide)) ?_
  rw [w1]
  refine x_cVI (pc := 9) dX10_waysBy_9 lk_X10_51 (c_Sd_ways (R := f) h hL hF hS (wd_k h1).2 (wd_m h1 hL 1 (by decide)) w2 (by decide) (fun j hj => by have := w3 j hj; omega) hne) (sd_k h).1 ⟨by decide, rfl⟩ (sd_m h hL 0 (by decide)) (⟨by decide, by decide⟩) (Nat.le_of_ble_eq_true rfl) rfl ?_
  rintro x G' ⟨rfl, a2, hF⟩
  refine x_rI (pc := 12) dX10_waysBy_12 rfl ?_
  exact ⟨rfl, a2, hF⟩
theorem c_ts_makes {dn pn : Nat → Nat} {dl pl : Nat → Nat → Nat} {i j : Int} {L : List Nat} {G : Nat → Nat → Int} (hL : x_SL L) (hF : x_Fin xFL G) (hD : cDk dn dl G) (hP : cPt pn pl G) (hi : -2147483648 ≤ i ∧ i < 2147483648) (hj : -2147483648 ≤ j ∧ j < 2147483648) :
    CM yX11_makes mX11_makes 4 0 0 [vR 1, vI i, vI j] L G (qI L fun x G' => x = (if ¬ ((0 ≤ i ∧ i < 4) ∧ 0 ≤ j ∧ j < 4) then -2 else if pn i.toNat = 0 then -4 else (zWays (pn i.toNat) pl i.toNat (dn j.toNat) (dl j.toNat) : Int)) ∧ FR zPScr G G' ∧ x_Fin xFL G') := by
  refine Ct.of_X (μ := mX11_makes) rfl rfl (by decide) (fun h => by cases h) (Nat.le_of_ble_eq_true rfl) rfl ?_
  refine x_iloadn (pc := 0) dX11_makes_0 rfl ?_
  refine x_cSI (pc := 1) dX11_makes_1 lk_X11_105 (c_ts_none hi) (⟨by decide, by decide⟩) (Nat.le_of_ble_eq_true rfl) rfl ?_
  rintro x G' ⟨rfl, rfl⟩
  refine x_ine (tgt := 14) (pc := 4) dX11_makes_4 (by decide) (by split <;> omega) (fun c_4 => ?_) (fun c_4 => ?_)
  · skip
    refine x_bipush (pc := 14) dX11_makes_14 (by decide) ?_
    refine x_rI (pc := 16) dX11_makes_16 rfl ?_
    refine ⟨?_, FR.rf, hF⟩
    rw [if_pos]
    first | (split at c_4 <;> omega; done) | (split at c_11 <;> omega; done)
  · skip
    refine x_iloadn (pc := 7) dX11_makes_7 rfl ?_
    refine x_cSI (pc := 8) dX11_makes_8 lk_X11_105 (c_ts_none hj) (⟨by decide, by decide⟩) (Nat.le_of_ble_eq_true rfl) rfl ?_
    rintro x G' ⟨rfl, rfl⟩
    refine x_ieq (tgt := 17) (pc := 11) dX11_makes_11 (by decide) (by split <;> omega) (fun c_11 => ?_) (fun c_11 => ?_)
    · skip
      have g0 : 0 ≤ i ∧ i < 4 := by split at c_4 <;> omega
      have g1 : 0 ≤ j ∧ j < 4 := by split at c_11 <;> omega
      rw [if_neg (by omega)]
      obtain ⟨i, rfl⟩ : ∃ k : Nat, i = k := ⟨i.toNat, by omega⟩
      obtain ⟨j, rfl⟩ : ∃ k : Nat, j = k := ⟨j.toNat, by omega⟩
      rw [Int.toNat_natCast, Int.toNat_natCast]
      have hx := pt_sd (i := i) (by omega)
      have hy := dk_w (i := j) (by omega)
      have hpn := (hP i (by omega)).2.1
      refine x_aloadn (pc := 17) dX11_makes_17 rfl ?_
      refine x_getR (87) (pc := 18) dX11_makes_18 fl_X11_52 k_1 (hL 1 (by decide) (by decide)) (f_1_6 hF) ?_
      refine x_iloadn (pc := 21) dX11_makes_21 rfl ?_
      refine x_aald (101 + 7 * i) (i) (pc := 22) dX11_makes_22 k_87 (by decide) (hL 87 (by decide) (by decide)) (⟨by omega, by omega, by decide⟩) (hF _ (pt_fl i (by omega))) ?_
      refine x_cVI (pc := 23) dX11_makes_23 lk_X11_215 (c_Sd_length hx hL (hP i (by omega))) (sd_k hx).1 ⟨by decide, rfl⟩ (sd_m hx hL 0 (by decide)) (⟨by decide, by decide⟩) (Nat.le_of_ble_eq_true rfl) rfl ?_
      rintro x G' ⟨rfl, rfl⟩
      refine x_ine (tgt := 32) (pc := 26) dX11_makes_26 (by decide) (by omega) (fun c_26 => ?_) (fun c_26 => ?_)
      · skip
        refine x_aloadn (pc := 32) dX11_makes_32 rfl ?_
        refine x_getR (83) (pc := 33) dX11_makes_33 fl_X11_39 k_1 (hL 1 (by decide) (by decide)) (f_1_4 hF) ?_
        refine x_iloadn (pc := 36) dX11_makes_36 rfl ?_
        refine x_aald (99 + 7 * j) (j) (pc := 37) dX11_makes_37 k_83 (by decide) (hL 83 (by decide) (by decide)) (⟨by omega, by omega, by decide⟩) (hF _ (dk_fl j (by omega))) ?_
        refine x_aloadn (pc := 38) dX11_makes_38 rfl ?_
        refine x_getR (87) (pc := 39) dX11_makes_39 fl_X11_52 k_1 (hL 1 (by decide) (by decide)) (f_1_6 hF) ?_
        refine x_iloadn (pc := 42) dX11_makes_42 rfl ?_
        refine x_aald (101 + 7 * i) (i) (pc := 43) dX11_makes_43 k_87 (by decide) (hL 87 (by decide) (by decide)) (⟨by omega, by omega, by decide⟩) (hF _ (pt_fl i (by omega))) ?_
        refine x_cVI (pc := 44) dX11_makes_44 lk_X11_216 (c_Wd_ways hy hx (by omega) hL hF (hD j (by omega)) (hP i (by omega))) (wd_k hy).1 ⟨by decide, rfl⟩ (wd_m hy hL 0 (by decide)) (⟨by decide, by decide⟩) (Nat.le_of_ble_eq_true rfl) rfl ?_
        rintro x G' ⟨rfl, a2, hF⟩
        refine x_rI (pc := 47) dX11_makes_47 rfl ?_
        exact ⟨by rw [if_neg (by omega)], a2.mono (pscr (by omega)), hF⟩
      · skip
        refine x_bipush (pc := 29) dX11_makes_29 (by decide) ?_
        refine x_rI (pc := 31) dX11_makes_31 rfl ?_
        exact ⟨by rw [if_pos (by omega)], FR.rf, hF⟩
    · skip
      refine x_bipush (pc := 14) dX11_makes_14 (by decide) ?_
      refine x_rI (pc := 16) dX11_makes_16 rfl ?_
      refine ⟨?_, FR.rf, hF⟩
      rw [if_pos]
      first | (split at c_4 <;> omega; done) | (split at c_11 <;> omega; done)
theorem c_Sd_can {r1 r2 n m : Nat} {I : Nat → Nat → Nat} {q q2 : Nat} {L : List Nat} {G : Nat → Nat → Int} (h : xSd r1) (h2 : xSd r2) (hne : r2 + 1 ≠ r1 + 4 ∧ r2 + 1 ≠ r1 + 3) (hL : x_SL L) (hF : x_Fin xFL G) (hS : cSd r1 n I q G) (hS2 : cSd r2 m I q2 G) :
    CM yX8_canBecome mX8_canBecome 3 0 0 [vR r1, vR r2] L G (qI L fun x G' => x = (if 0 < zWays n I q m (I q2) then 1 else 0) ∧ FR [r1 + 3, r1 + 4] G G' ∧ x_Fin xFL G') := by
  obtain ⟨w1, w2, w3, w4, w5⟩ := hS2
  have hb : zWays n I q m (I q2) ≤ 923521 := zPc_le _
  refine Ct.of_X (μ := mX8_canBecome) rfl rfl (by decide) (fun h => by cases h) (Nat.le_of_ble_eq_true rfl) rfl ?_
  refine x_aloadn (pc := 0) dX8_canBecome_0 rfl ?_
  refine x_aloadn (pc := 1) dX8_canBecome_1 rfl ?_
  refine x_getR (r2 + 1) (pc := 2) dX8_canBecome_2 fl_X8_9 (sd_k h2).1 (sd_m h2 hL 0 (by decide)) (sd_f0 h2 hF) ?_
  refine x_aloadn (pc := 5) dX8_canBecome_5 rfl ?_
  refine x_getI (pc := 6) dX8_canBecome_6 fl_X8_24 (sd_k h2).1 (sd_m h2 hL 0 (by decide)) ?_
  rw [w1]
  refine x_cVI (pc := 9) dX8_canBecome_9 lk_X8_48 (c_Sd_ways (R := I q2) h hL hF hS (sd_k h2).2.1 (sd_m h2 hL 1 (by decide)) w2 (by decide) (fun j hj => ⟨(w3 j hj).1, by have := (w3 j hj).2.1; omega⟩) hne) (sd_k h).1 ⟨by decide, rfl⟩ (sd_m h hL 0 (by decide)) (⟨by decide, by decide⟩) (Nat.le_of_ble_eq_true rfl) rfl ?_
  rintro x G' ⟨rfl, a2, hF⟩
  refine x_ile (tgt := 19) (pc := 12) dX8_canBecome_12 (by decide) (by omega) (fun c_12 => ?_) (fun c_12 => ?_)
  · skip
    refine x_iconst (pc := 19) dX8_canBecome_19 ?_
    refine x_rZ (pc := 20) dX8_canBecome_20 rfl (by omega) ?_
    exact ⟨by first | (rw [if_pos (by omega)]; done) | (rw [if_neg (by omega)]; done), a2, hF⟩
  · skip
    refine x_iconst (pc := 15) dX8_canBecome_15 ?_
    refine x_goto (tgt := 20) (pc := 16) dX8_canBecome_16 (by decide) ?_
    refine x_rZ (pc := 20) dX8_canBecome_20 rfl (by omega) ?_
    exact ⟨by first | (rw [if_pos (by omega)]; done) | (rw [if_neg (by omega)]; done), a2, hF⟩
theorem c_ts_carries {pn : Nat → Nat} {pl : Nat → Nat → Nat} {i j : Int} {L : List Nat} {G : Nat → Nat → Int} (hL : x_SL L) (hF : x_Fin xFL G) (hP : cPt pn pl G) (hi : -2147483648 ≤ i ∧ i < 2147483648) (hj : -2147483648 ≤ j ∧ j < 2147483648) :
    CM yX11_carries mX11_carries 4 0 0 [vR 1, vI i, vI j] L G (qI L fun x G' => x = (if ¬ ((0 ≤ i ∧ i < 4) ∧ 0 ≤ j ∧ j < 4) then -2 else if pn i.toNat = 0 ∨ pn j.toNat = 0 then -4 else if 0 < zWays (pn i.toNat) pl i.toNat (pn j.toNat) (pl j.toNat) then 1 else 0) ∧ FR zPScr G G' ∧ x_Fin xFL G') := by
  refine Ct.of_X (μ := mX11_carries) rfl rfl (by decide) (fun h => by cases h) (Nat.le_of_ble_eq_true rfl) rfl ?_
  refine x_iloadn (pc := 0) dX11_carries_0 rfl ?_
  refine x_cSI (pc := 1) dX11_carries_1 lk_X11_105 (c_ts_none hi) (⟨by decide, by decide⟩) (Nat.le_of_ble_eq_true rfl) rfl ?_
  rintro x G' ⟨rfl, rfl⟩
  refine x_ine (tgt := 14) (pc := 4) dX11_carries_4 (by decide) (by split <;> omega) (fun c_4 => ?_) (fun c_4 => ?_)
  · skip
    refine x_bipush (pc := 14) dX11_carries_14 (by decide) ?_
    refine x_rI (pc := 16) dX11_carries_16 rfl ?_
    refine ⟨?_, FR.rf, hF⟩
    rw [if_pos]
    first | (split at c_4 <;> omega; done) | (split at c_11 <;> omega; done)
  · skip
    refine x_iloadn (pc := 7) dX11_carries_7 rfl ?_
    refine x_cSI (pc := 8) dX11_carries_8 lk_X11_105 (c_ts_none hj) (⟨by decide, by decide⟩) (Nat.le_of_ble_eq_true rfl) rfl ?_
    rintro x G' ⟨rfl, rfl⟩
    refine x_ieq (tgt := 17) (pc := 11) dX11_carries_11 (by decide) (by split <;> omega) (fun c_11 => ?_) (fun c_11 => ?_)
    · skip
      have g0 : 0 ≤ i ∧ i < 4 := by split at c_4 <;> omega
      have g1 : 0 ≤ j ∧ j < 4 := by split at c_11 <;> omega
      rw [if_neg (by omega)]
      obtain ⟨i, rfl⟩ : ∃ k : Nat, i = k := ⟨i.toNat, by omega⟩
      obtain ⟨j, rfl⟩ : ∃ k : Nat, j = k := ⟨j.toNat, by omega⟩
      rw [Int.toNat_natCast, Int.toNat_natCast]
      have hx := pt_sd (i := i) (by omega)
      have hy := pt_sd (i := j) (by omega)
      have hpn := (hP i (by omega)).2.1
      have hpm := (hP j (by omega)).2.1
      refine x_aloadn (pc := 17) dX11_carries_17 rfl ?_
      refine x_getR (87) (pc := 18) dX11_carries_18 fl_X11_52 k_1 (hL 1 (by decide) (by decide)) (f_1_6 hF) ?_
      refine x_iloadn (pc := 21) dX11_carries_21 rfl ?_
      refine x_aald (101 + 7 * i) (i) (pc := 22) dX11_carries_22 k_87 (by decide) (hL 87 (by decide) (by decide)) (⟨by omega, by omega, by decide⟩) (hF _ (pt_fl i (by omega))) ?_
      refine x_cVI (pc := 23) dX11_carries_23 lk_X11_215 (c_Sd_length hx hL (hP i (by omega))) (sd_k hx).1 ⟨by decide, rfl⟩ (sd_m hx hL 0 (by decide)) (⟨by decide, by decide⟩) (Nat.le_of_ble_eq_true rfl) rfl ?_
      rintro x G' ⟨rfl, rfl⟩
      refine x_ieq (tgt := 41) (pc := 26) dX11_carries_26 (by decide) (by omega) (fun c_26 => ?_) (fun c_26 => ?_)
      · skip
        refine x_bipush (pc := 41) dX11_carries_41 (by decide) ?_
        refine x_rI (pc := 43) dX11_carries_43 rfl ?_
        exact ⟨by rw [if_pos (by omega)], FR.rf, hF⟩
      · skip
        refine x_aloadn (pc := 29) dX11_carries_29 rfl ?_
        refine x_getR (87) (pc := 30) dX11_carries_30 fl_X11_52 k_1 (hL 1 (by decide) (by decide)) (f_1_6 hF) ?_
        refine x_iloadn (pc := 33) dX11_carries_33 rfl ?_
        refine x_aald (101 + 7 * j) (j) (pc := 34) dX11_carries_34 k_87 (by decide) (hL 87 (by decide) (by decide)) (⟨by omega, by omega, by decide⟩) (hF _ (pt_fl j (by omega))) ?_
        refine x_cVI (pc := 35) dX11_carries_35 lk_X11_215 (c_Sd_length hy hL (hP j (by omega))) (sd_k hy).1 ⟨by decide, rfl⟩ (sd_m hy hL 0 (by decide)) (⟨by decide, by decide⟩) (Nat.le_of_ble_eq_true rfl) rfl ?_
        rintro x G' ⟨rfl, rfl⟩
        refine x_ine (tgt := 44) (pc := 38) dX11_carries_38 (by decide) (by omega) (fun c_38 => ?_) (fun c_38 => ?_)
        · skip
          refine x_aloadn (pc := 44) dX11_carries_44 rfl ?_
          refine x_getR (87) (pc := 45) dX11_carries_45 fl_X11_52 k_1 (hL 1 (by decide) (by decide)) (f_1_6 hF) ?_
          refine x_iloadn (pc := 48) dX11_carries_48 rfl ?_
          refine x_aald (101 + 7 * i) (i) (pc := 49) dX11_carries_49 k_87 (by decide) (hL 87 (by decide) (by decide)) (⟨by omega, by omega, by decide⟩) (hF _ (pt_fl i (by omega))) ?_
          refine x_aloadn (pc := 50) dX11_carries_50 rfl ?_
          refine x_getR (87) (pc := 51) dX11_carries_51 fl_X11_52 k_1 (hL 1 (by decide) (by decide)) (f_1_6 hF) ?_
          refine x_iloadn (pc := 54) dX11_carries_54 rfl ?_
          refine x_aald (101 + 7 * j) (j) (pc := 55) dX11_carries_55 k_87 (by decide) (hL 87 (by decide) (by decide)) (⟨by omega, by omega, by decide⟩) (hF _ (pt_fl j (by omega))) ?_
          refine x_cVI (pc := 56) dX11_carries_56 lk_X11_220 (c_Sd_can hx hy (by omega) hL hF (hP i (by omega)) (hP j (by omega))) (sd_k hx).1 ⟨by decide, rfl⟩ (sd_m hx hL 0 (by decide)) (⟨by decide, by decide⟩) (Nat.le_of_ble_eq_true rfl) rfl ?_
          rintro x G' ⟨hx0, a2, hF⟩
          refine x_ieq (tgt := 66) (pc := 59) dX11_carries_59 (by decide) (by split at hx0 <;> omega) (fun c_59 => ?_) (fun c_59 => ?_)
          · skip
            refine x_iconst (pc := 66) dX11_carries_66 ?_
            refine x_rI (pc := 67) dX11_carries_67 rfl ?_
            refine ⟨?_, a2.mono (pscr (by omega)), hF⟩
            rw [if_neg (by omega)]
            split at hx0 <;> first | (rw [if_pos (by assumption)]; done) | (rw [if_neg (by assumption)]; done) | (exfalso; omega)
          · skip
            refine x_iconst (pc := 62) dX11_carries_62 ?_
            refine x_goto (tgt := 67) (pc := 63) dX11_carries_63 (by decide) ?_
            refine x_rI (pc := 67) dX11_carries_67 rfl ?_
            refine ⟨?_, a2.mono (pscr (by omega)), hF⟩
            rw [if_neg (by omega)]
            split at hx0 <;> first | (rw [if_pos (by assumption)]; done) | (rw [if_neg (by assumption)]; done) | (exfalso; omega)
        · skip
          refine x_bipush (pc := 41) dX11_carries_41 (by decide) ?_
          refine x_rI (pc := 43) dX11_carries_43 rfl ?_
          exact ⟨by rw [if_pos (by omega)], FR.rf, hF⟩
    · skip
      refine x_bipush (pc := 14) dX11_carries_14 (by decide) ?_
      refine x_rI (pc := 16) dX11_carries_16 rfl ?_
      refine ⟨?_, FR.rf, hF⟩
      rw [if_pos]
      first | (split at c_4 <;> omega; done) | (split at c_11 <;> omega; done)

