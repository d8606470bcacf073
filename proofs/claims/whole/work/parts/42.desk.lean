/-! the class: the desk -/
def cDk (dn : Nat → Nat) (dl : Nat → Nat → Nat) (G : Nat → Nat → Int) : Prop := ∀ i, i < 4 → cWd (99 + 7 * i) (dn i) (dl i) G
theorem dk_fl : ∀ i, i < 4 → ((83, i, 99 + 7 * i) : Nat × Nat × Nat) ∈ xFL := by decide +kernel
theorem dk_w {i : Nat} (h : i < 4) : xWd (99 + 7 * i) := ⟨i, h, rfl⟩
def zof (f : Nat → Nat) (n : Nat) (w : Int) : Int := if w = 0 then n else if w = 1 then zRT f n else if w = 2 then (n : Int) - zLP f n else if w = 3 then zltb f n (n - 1) else if w = 4 then zfc (zfl f n) n (n + 1) 0 else if w = 5 then zLP f n else if w = 6 then zcn (zper f n) n else -3
theorem c_ts_of {dn : Nat → Nat} {dl : Nat → Nat → Nat} {i w : Int} {L : List Nat} {G : Nat → Nat → Int} (hL : x_SL L) (hF : x_Fin xFL G) (hD : cDk dn dl G) (hi : -2147483648 ≤ i ∧ i < 2147483648) (hw : -2147483648 ≤ w ∧ w < 2147483648) :
    CM yX11_of mX11_of 3 0 0 [vR 1, vI i, vI w] L G (qI L fun x G' => x = (if 0 ≤ i ∧ i < 4 then zof (dl i.toNat) (dn i.toNat) w else -2) ∧ G' = G) := by
  refine Ct.of_X (μ := mX11_of) rfl rfl (by decide) (fun h => by cases h) (Nat.le_of_ble_eq_true rfl) rfl ?_
  refine x_iloadn (pc := 0) dX11_of_0 rfl ?_
  refine x_cSI (pc := 1) dX11_of_1 lk_X11_105 (c_ts_none hi) (⟨by decide, by decide⟩) (Nat.le_of_ble_eq_true rfl) rfl ?_
  rintro x G' ⟨rfl, rfl⟩
  refine x_ieq (tgt := 10) (pc := 4) dX11_of_4 (by decide) (by split <;> omega) (fun c_4 => ?_) (fun c_4 => ?_)
  · skip
    have g0 : 0 ≤ i ∧ i < 4 := by split at c_4 <;> omega
    rw [if_pos g0]
    obtain ⟨i, rfl⟩ : ∃ j : Nat, i = j := ⟨i.toNat, by omega⟩
    rw [Int.toNat_natCast]
    have hW := hD i (by omega)
    have hx := dk_w (i := i) (by omega)
    refine x_aloadn (pc := 10) dX11_of_10 rfl ?_
    refine x_getR (83) (pc := 11) dX11_of_11 fl_X11_39 k_1 (hL 1 (by decide) (by decide)) (f_1_4 hF) ?_
    refine x_iloadn (pc := 14) dX11_of_14 rfl ?_
    refine x_aald (99 + 7 * i) (i) (pc := 15) dX11_of_15 k_83 (by decide) (hL 83 (by decide) (by decide)) (⟨by omega, by omega, by decide⟩) (hF _ (dk_fl i (by omega))) ?_
    refine x_astoren (pc := 16) dX11_of_16 rfl (by decide) rfl ?_
    refine x_iloadn (pc := 17) dX11_of_17 rfl ?_
    refine x_ine (tgt := 26) (pc := 18) dX11_of_18 (by decide) (by omega) (fun c_18 => ?_) (fun c_18 => ?_)
    · skip
      refine x_iloadn (pc := 26) dX11_of_26 rfl ?_
      refine x_iconst (pc := 27) dX11_of_27 ?_
      refine x_cne (tgt := 36) (pc := 28) dX11_of_28 (by decide) (by omega) (fun c_28 => ?_) (fun c_28 => ?_)
      · skip
        refine x_iloadn (pc := 36) dX11_of_36 rfl ?_
        refine x_iconst (pc := 37) dX11_of_37 ?_
        refine x_cne (tgt := 51) (pc := 38) dX11_of_38 (by decide) (by omega) (fun c_38 => ?_) (fun c_38 => ?_)
        · skip
          refine x_iloadn (pc := 51) dX11_of_51 rfl ?_
          refine x_iconst (pc := 52) dX11_of_52 ?_
          refine x_cne (tgt := 61) (pc := 53) dX11_of_53 (by decide) (by omega) (fun c_53 => ?_) (fun c_53 => ?_)
          · skip
            refine x_iloadn (pc := 61) dX11_of_61 rfl ?_
            refine x_iconst (pc := 62) dX11_of_62 ?_
            refine x_cne (tgt := 71) (pc := 63) dX11_of_63 (by decide) (by omega) (fun c_63 => ?_) (fun c_63 => ?_)
            · skip
              refine x_iloadn (pc := 71) dX11_of_71 rfl ?_
              refine x_iconst (pc := 72) dX11_of_72 ?_
              refine x_cne (tgt := 81) (pc := 73) dX11_of_73 (by decide) (by omega) (fun c_73 => ?_) (fun c_73 => ?_)
              · skip
                refine x_iloadn (pc := 81) dX11_of_81 rfl ?_
                refine x_bipush (pc := 82) dX11_of_82 (by decide) ?_
                refine x_cne (tgt := 92) (pc := 84) dX11_of_84 (by decide) (by omega) (fun c_84 => ?_) (fun c_84 => ?_)
                · skip
                  refine x_bipush (pc := 92) dX11_of_92 (by decide) ?_
                  refine x_rI (pc := 94) dX11_of_94 rfl ?_
                  exact ⟨by unfold zof; rw [if_neg (by omega), if_neg (by omega), if_neg (by omega), if_neg (by omega), if_neg (by omega), if_neg (by omega), if_neg (by omega)], rfl⟩
                · skip
                  refine x_aloadn (pc := 87) dX11_of_87 rfl ?_
                  refine x_cVI (pc := 88) dX11_of_88 lk_X11_181 (c_Wd_pn hx hL hF hW) (wd_k hx).1 ⟨by decide, rfl⟩ (wd_m hx hL 0 (by decide)) (⟨by decide, by decide⟩) (Nat.le_of_ble_eq_true rfl) rfl ?_
                  rintro x G' ⟨rfl, rfl⟩
                  refine x_rI (pc := 91) dX11_of_91 rfl ?_
                  exact ⟨by unfold zof; rw [if_neg (by omega), if_neg (by omega), if_neg (by omega), if_neg (by omega), if_neg (by omega), if_neg (by omega), if_pos (by omega)], rfl⟩
              · skip
                refine x_aloadn (pc := 76) dX11_of_76 rfl ?_
                refine x_cVI (pc := 77) dX11_of_77 lk_X11_172 (c_Wd_lp hx hL hF hW) (wd_k hx).1 ⟨by decide, rfl⟩ (wd_m hx hL 0 (by decide)) (⟨by decide, by decide⟩) (Nat.le_of_ble_eq_true rfl) rfl ?_
                rintro x G' ⟨rfl, rfl⟩
                refine x_rI (pc := 80) dX11_of_80 rfl ?_
                exact ⟨by unfold zof; rw [if_neg (by omega), if_neg (by omega), if_neg (by omega), if_neg (by omega), if_neg (by omega), if_pos (by omega)], rfl⟩
            · skip
              refine x_aloadn (pc := 66) dX11_of_66 rfl ?_
              refine x_cVI (pc := 67) dX11_of_67 lk_X11_178 (c_Wd_fp hx hL hF hW) (wd_k hx).1 ⟨by decide, rfl⟩ (wd_m hx hL 0 (by decide)) (⟨by decide, by decide⟩) (Nat.le_of_ble_eq_true rfl) rfl ?_
              rintro x G' ⟨rfl, rfl⟩
              refine x_rI (pc := 70) dX11_of_70 rfl ?_
              exact ⟨by unfold zof; rw [if_neg (by omega), if_neg (by omega), if_neg (by omega), if_neg (by omega), if_pos (by omega)], rfl⟩
          · skip
            refine x_aloadn (pc := 56) dX11_of_56 rfl ?_
            refine x_cVI (pc := 57) dX11_of_57 lk_X11_175 (c_Wd_lt hx hL hF hW) (wd_k hx).1 ⟨by decide, rfl⟩ (wd_m hx hL 0 (by decide)) (⟨by decide, by decide⟩) (Nat.le_of_ble_eq_true rfl) rfl ?_
            rintro x G' ⟨rfl, rfl⟩
            refine x_rI (pc := 60) dX11_of_60 rfl ?_
            exact ⟨by unfold zof; rw [if_neg (by omega), if_neg (by omega), if_neg (by omega), if_pos (by omega)], rfl⟩
        · skip
          refine x_aloadn (pc := 41) dX11_of_41 rfl ?_
          refine x_cVI (pc := 42) dX11_of_42 lk_X11_168 (c_Wd_length hx hL hW) (wd_k hx).1 ⟨by decide, rfl⟩ (wd_m hx hL 0 (by decide)) (⟨by decide, by decide⟩) (Nat.le_of_ble_eq_true rfl) rfl ?_
          rintro x G' ⟨rfl, rfl⟩
          refine x_aloadn (pc := 45) dX11_of_45 rfl ?_
          refine x_cVI (pc := 46) dX11_of_46 lk_X11_172 (c_Wd_lp hx hL hF hW) (wd_k hx).1 ⟨by decide, rfl⟩ (wd_m hx hL 0 (by decide)) (⟨by decide, by decide⟩) (Nat.le_of_ble_eq_true rfl) rfl ?_
          rintro x G' ⟨rfl, rfl⟩
          refine x_isub (pc := 49) dX11_of_49 ?_
          refine x_rI (pc := 50) dX11_of_50 rfl ?_
          exact ⟨by unfold zof; rw [if_neg (by omega), if_neg (by omega), if_pos (by omega)], rfl⟩
      · skip
        refine x_aloadn (pc := 31) dX11_of_31 rfl ?_
        refine x_cVI (pc := 32) dX11_of_32 lk_X11_169 (c_Wd_rt hx hL hF hW) (wd_k hx).1 ⟨by decide, rfl⟩ (wd_m hx hL 0 (by decide)) (⟨by decide, by decide⟩) (Nat.le_of_ble_eq_true rfl) rfl ?_
        rintro x G' ⟨rfl, rfl⟩
        refine x_rI (pc := 35) dX11_of_35 rfl ?_
        exact ⟨by unfold zof; rw [if_neg (by omega), if_pos (by omega)], rfl⟩
    · skip
      refine x_aloadn (pc := 21) dX11_of_21 rfl ?_
      refine x_cVI (pc := 22) dX11_of_22 lk_X11_168 (c_Wd_length hx hL hW) (wd_k hx).1 ⟨by decide, rfl⟩ (wd_m hx hL 0 (by decide)) (⟨by decide, by decide⟩) (Nat.le_of_ble_eq_true rfl) rfl ?_
      rintro x G' ⟨rfl, rfl⟩
      refine x_rI (pc := 25) dX11_of_25 rfl ?_
      exact ⟨by unfold zof; rw [if_pos (by omega)], rfl⟩
  · skip
    refine x_bipush (pc := 7) dX11_of_7 (by decide) ?_
    refine x_rI (pc := 9) dX11_of_9 rfl ?_
    exact ⟨by rw [if_neg (by split at c_4 <;> omega)], rfl⟩
theorem c_ts_part {dn : Nat → Nat} {dl : Nat → Nat → Nat} {i k : Int} {L : List Nat} {G : Nat → Nat → Int} (hL : x_SL L) (hF : x_Fin xFL G) (hD : cDk dn dl G) (hi : -2147483648 ≤ i ∧ i < 2147483648) (hk : -2147483648 ≤ k ∧ k < 2147483648) :
    CM yX11_part mX11_part 3 0 0 [vR 1, vI i, vI k] L G (qI L fun x G' => x = (if ¬ (0 ≤ i ∧ i < 4) then -2 else if k < 0 then -3 else zfk (zfl (dl i.toNat) (dn i.toNat)) (dn i.toNat) k.toNat (dn i.toNat + 1) 0 0) ∧ G' = G) := by
  refine Ct.of_X (μ := mX11_part) rfl rfl (by decide) (fun h => by cases h) (Nat.le_of_ble_eq_true rfl) rfl ?_
  refine x_iloadn (pc := 0) dX11_part_0 rfl ?_
  refine x_cSI (pc := 1) dX11_part_1 lk_X11_105 (c_ts_none hi) (⟨by decide, by decide⟩) (Nat.le_of_ble_eq_true rfl) rfl ?_
  rintro x G' ⟨rfl, rfl⟩
  refine x_ieq (tgt := 10) (pc := 4) dX11_part_4 (by decide) (by split <;> omega) (fun c_4 => ?_) (fun c_4 => ?_)
  · skip
    refine x_iloadn (pc := 10) dX11_part_10 rfl ?_
    refine x_ige (tgt := 17) (pc := 11) dX11_part_11 (by decide) (by omega) (fun c_11 => ?_) (fun c_11 => ?_)
    · skip
      have g0 : 0 ≤ i ∧ i < 4 := by split at c_4 <;> omega
      rw [if_neg (by omega), if_neg (by omega)]
      obtain ⟨i, rfl⟩ : ∃ j : Nat, i = j := ⟨i.toNat, by omega⟩
      rw [Int.toNat_natCast]
      have hx := dk_w (i := i) (by omega)
      refine x_aloadn (pc := 17) dX11_part_17 rfl ?_
      refine x_getR (83) (pc := 18) dX11_part_18 fl_X11_39 k_1 (hL 1 (by decide) (by decide)) (f_1_4 hF) ?_
      refine x_iloadn (pc := 21) dX11_part_21 rfl ?_
      refine x_aald (99 + 7 * i) (i) (pc := 22) dX11_part_22 k_83 (by decide) (hL 83 (by decide) (by decide)) (⟨by omega, by omega, by decide⟩) (hF _ (dk_fl i (by omega))) ?_
      refine x_iloadn (pc := 23) dX11_part_23 rfl ?_
      refine x_cVI (pc := 24) dX11_part_24 lk_X11_184 (c_Wd_fk hx hL hF (hD i (by omega)) (by omega)) (wd_k hx).1 ⟨by decide, rfl⟩ (wd_m hx hL 0 (by decide)) (⟨by decide, by decide⟩) (Nat.le_of_ble_eq_true rfl) rfl ?_
      rintro x G' ⟨rfl, rfl⟩
      refine x_rI (pc := 27) dX11_part_27 rfl ?_
      exact ⟨rfl, rfl⟩
    · skip
      refine x_bipush (pc := 14) dX11_part_14 (by decide) ?_
      refine x_rI (pc := 16) dX11_part_16 rfl ?_
      exact ⟨by rw [if_neg (by split at c_4 <;> omega), if_pos (by omega)], rfl⟩
  · skip
    refine x_bipush (pc := 7) dX11_part_7 (by decide) ?_
    refine x_rI (pc := 9) dX11_part_9 rfl ?_
    exact ⟨by rw [if_pos (by split at c_4 <;> omega)], rfl⟩
theorem c_ts_agree {dn : Nat → Nat} {dl : Nat → Nat → Nat} {i j : Int} {L : List Nat} {G : Nat → Nat → Int} (hL : x_SL L) (hF : x_Fin xFL G) (hD : cDk dn dl G) (hi : -2147483648 ≤ i ∧ i < 2147483648) (hj : -2147483648 ≤ j ∧ j < 2147483648) :
    CM yX11_agree mX11_agree 1 0 0 [vR 1, vI i, vI j] L G (qI L fun x G' => x = (if ¬ ((0 ≤ i ∧ i < 4) ∧ 0 ≤ j ∧ j < 4) then -2 else if zag (dn i.toNat) (dn j.toNat) (dl i.toNat) (dl j.toNat) = true then 1 else 0) ∧ G' = G) := by
  refine Ct.of_X (μ := mX11_agree) rfl rfl (by decide) (fun h => by cases h) (Nat.le_of_ble_eq_true rfl) rfl ?_
  refine x_iloadn (pc := 0) dX11_agree_0 rfl ?_
  refine x_cSI (pc := 1) dX11_agree_1 lk_X11_105 (c_ts_none hi) (⟨by decide, by decide⟩) (Nat.le_of_ble_eq_true rfl) rfl ?_
  rintro x G' ⟨rfl, rfl⟩
  refine x_ine (tgt := 14) (pc := 4) dX11_agree_4 (by decide) (by split <;> omega) (fun c_4 => ?_) (fun c_4 => ?_)
  · skip
    refine x_bipush (pc := 14) dX11_agree_14 (by decide) ?_
    refine x_rI (pc := 16) dX11_agree_16 rfl ?_
    refine ⟨?_, rfl⟩
    rw [if_pos]
    first | (split at c_4 <;> omega; done) | (split at c_11 <;> omega; done)
  · skip
    refine x_iloadn (pc := 7) dX11_agree_7 rfl ?_
    refine x_cSI (pc := 8) dX11_agree_8 lk_X11_105 (c_ts_none hj) (⟨by decide, by decide⟩) (Nat.le_of_ble_eq_true rfl) rfl ?_
    rintro x G' ⟨rfl, rfl⟩
    refine x_ieq (tgt := 17) (pc := 11) dX11_agree_11 (by decide) (by split <;> omega) (fun c_11 => ?_) (fun c_11 => ?_)
    · skip
      have g0 : 0 ≤ i ∧ i < 4 := by split at c_4 <;> omega
      have g1 : 0 ≤ j ∧ j < 4 := by split at c_11 <;> omega
      rw [if_neg (by omega)]
      obtain ⟨i, rfl⟩ : ∃ k : Nat, i = k := ⟨i.toNat, by omega⟩
      obtain ⟨j, rfl⟩ : ∃ k : Nat, j = k := ⟨j.toNat, by omega⟩
      rw [Int.toNat_natCast, Int.toNat_natCast]
      have hx := dk_w (i := i) (by omega)
      have hy := dk_w (i := j) (by omega)
      refine x_aloadn (pc := 17) dX11_agree_17 rfl ?_
      refine x_getR (83) (pc := 18) dX11_agree_18 fl_X11_39 k_1 (hL 1 (by decide) (by decide)) (f_1_4 hF) ?_
      refine x_iloadn (pc := 21) dX11_agree_21 rfl ?_
      refine x_aald (99 + 7 * i) (i) (pc := 22) dX11_agree_22 k_83 (by decide) (hL 83 (by decide) (by decide)) (⟨by omega, by omega, by decide⟩) (hF _ (dk_fl i (by omega))) ?_
      refine x_aloadn (pc := 23) dX11_agree_23 rfl ?_
      refine x_getR (83) (pc := 24) dX11_agree_24 fl_X11_39 k_1 (hL 1 (by decide) (by decide)) (f_1_4 hF) ?_
      refine x_iloadn (pc := 27) dX11_agree_27 rfl ?_
      refine x_aald (99 + 7 * j) (j) (pc := 28) dX11_agree_28 k_83 (by decide) (hL 83 (by decide) (by decide)) (⟨by omega, by omega, by decide⟩) (hF _ (dk_fl j (by omega))) ?_
      refine x_cVI (pc := 29) dX11_agree_29 lk_X11_187 (c_Wd_ag hx hy hL hF (hD i (by omega)) (hD j (by omega))) (wd_k hx).1 ⟨by decide, rfl⟩ (wd_m hx hL 0 (by decide)) (⟨by decide, by decide⟩) (Nat.le_of_ble_eq_true rfl) rfl ?_
      rintro x G' ⟨rfl, rfl⟩
      refine x_ieq (tgt := 39) (pc := 32) dX11_agree_32 (by decide) (by split <;> omega) (fun c_32 => ?_) (fun c_32 => ?_)
      · skip
        refine x_iconst (pc := 39) dX11_agree_39 ?_
        refine x_rI (pc := 40) dX11_agree_40 rfl ?_
        exact ⟨by split at c_32 <;> split <;> first | rfl | omega | contradiction, rfl⟩
      · skip
        refine x_iconst (pc := 35) dX11_agree_35 ?_
        refine x_goto (tgt := 40) (pc := 36) dX11_agree_36 (by decide) ?_
        refine x_rI (pc := 40) dX11_agree_40 rfl ?_
        exact ⟨by split at c_32 <;> split <;> first | rfl | omega | contradiction, rfl⟩
    · skip
      refine x_bipush (pc := 14) dX11_agree_14 (by decide) ?_
      refine x_rI (pc := 16) dX11_agree_16 rfl ?_
      refine ⟨?_, rfl⟩
      rw [if_pos]
      first | (split at c_4 <;> omega; done) | (split at c_11 <;> omega; done)
theorem c_ts_turned {dn : Nat → Nat} {dl : Nat → Nat → Nat} {i j : Int} {L : List Nat} {G : Nat → Nat → Int} (hL : x_SL L) (hF : x_Fin xFL G) (hD : cDk dn dl G) (hi : -2147483648 ≤ i ∧ i < 2147483648) (hj : -2147483648 ≤ j ∧ j < 2147483648) :
    CM yX11_turned mX11_turned 3 0 0 [vR 1, vI i, vI j] L G (qI L fun x G' => x = (if ¬ ((0 ≤ i ∧ i < 4) ∧ 0 ≤ j ∧ j < 4) then -2 else ztd (dn i.toNat) (dn j.toNat) (dl i.toNat) (dl j.toNat)) ∧ G' = G) := by
  refine Ct.of_X (μ := mX11_turned) rfl rfl (by decide) (fun h => by cases h) (Nat.le_of_ble_eq_true rfl) rfl ?_
  refine x_iloadn (pc := 0) dX11_turned_0 rfl ?_
  refine x_cSI (pc := 1) dX11_turned_1 lk_X11_105 (c_ts_none hi) (⟨by decide, by decide⟩) (Nat.le_of_ble_eq_true rfl) rfl ?_
  rintro x G' ⟨rfl, rfl⟩
  refine x_ine (tgt := 14) (pc := 4) dX11_turned_4 (by decide) (by split <;> omega) (fun c_4 => ?_) (fun c_4 => ?_)
  · skip
    refine x_bipush (pc := 14) dX11_turned_14 (by decide) ?_
    refine x_rI (pc := 16) dX11_turned_16 rfl ?_
    refine ⟨?_, rfl⟩
    rw [if_pos]
    first | (split at c_4 <;> omega; done) | (split at c_11 <;> omega; done)
  · skip
    refine x_iloadn (pc := 7) dX11_turned_7 rfl ?_
    refine x_cSI (pc := 8) dX11_turned_8 lk_X11_105 (c_ts_none hj) (⟨by decide, by decide⟩) (Nat.le_of_ble_eq_true rfl) rfl ?_
    rintro x G' ⟨rfl, rfl⟩
    refine x_ieq (tgt := 17) (pc := 11) dX11_turned_11 (by decide) (by split <;> omega) (fun c_11 => ?_) (fun c_11 => ?_)
    · skip
      have g0 : 0 ≤ i ∧ i < 4 := by split at c_4 <;> omega
      have g1 : 0 ≤ j ∧ j < 4 := by split at c_11 <;> omega
      rw [if_neg (by omega)]
      obtain ⟨i, rfl⟩ : ∃ k : Nat, i = k := ⟨i.toNat, by omega⟩
      obtain ⟨j, rfl⟩ : ∃ k : Nat, j = k := ⟨j.toNat, by omega⟩
      rw [Int.toNat_natCast, Int.toNat_natCast]
      have hx := dk_w (i := i) (by omega)
      have hy := dk_w (i := j) (by omega)
      refine x_aloadn (pc := 17) dX11_turned_17 rfl ?_
      refine x_getR (83) (pc := 18) dX11_turned_18 fl_X11_39 k_1 (hL 1 (by decide) (by decide)) (f_1_4 hF) ?_
      refine x_iloadn (pc := 21) dX11_turned_21 rfl ?_
      refine x_aald (99 + 7 * i) (i) (pc := 22) dX11_turned_22 k_83 (by decide) (hL 83 (by decide) (by decide)) (⟨by omega, by omega, by decide⟩) (hF _ (dk_fl i (by omega))) ?_
      refine x_aloadn (pc := 23) dX11_turned_23 rfl ?_
      refine x_getR (83) (pc := 24) dX11_turned_24 fl_X11_39 k_1 (hL 1 (by decide) (by decide)) (f_1_4 hF) ?_
      refine x_iloadn (pc := 27) dX11_turned_27 rfl ?_
      refine x_aald (99 + 7 * j) (j) (pc := 28) dX11_turned_28 k_83 (by decide) (hL 83 (by decide) (by decide)) (⟨by omega, by omega, by decide⟩) (hF _ (dk_fl j (by omega))) ?_
      refine x_cVI (pc := 29) dX11_turned_29 lk_X11_191 (c_Wd_ti hx hy hL hF (hD i (by omega)) (hD j (by omega))) (wd_k hx).1 ⟨by decide, rfl⟩ (wd_m hx hL 0 (by decide)) (⟨by decide, by decide⟩) (Nat.le_of_ble_eq_true rfl) rfl ?_
      rintro x G' ⟨rfl, rfl⟩
      refine x_rI (pc := 32) dX11_turned_32 rfl ?_
      exact ⟨rfl, rfl⟩
    · skip
      refine x_bipush (pc := 14) dX11_turned_14 (by decide) ?_
      refine x_rI (pc := 16) dX11_turned_16 rfl ?_
      refine ⟨?_, rfl⟩
      rw [if_pos]
      first | (split at c_4 <;> omega; done) | (split at c_11 <;> omega; done)
/-! a word becomes another -/
theorem l_Wd_be {r n : Nat} {w : Int} {L : List Nat} {G0 : Nat → Nat → Int} (h : xWd r) (hL : x_SL L) (hw : -9223372036854775808 ≤ w ∧ w < 9223372036854775808) (hn : n ≤ 30) :
    ∀ (k i : Nat) (G : Nat → Nat → Int), i + k = n → G r 1 = n → (∀ j, j < i → G (r + 1) j = zlet w j) → FR [r, r + 1] G0 G → x_Fin xFL G →
    X mX10_become 1 0 0 (qV L fun G' => G' r 1 = n ∧ (∀ j, j < n → G' (r + 1) j = zlet w j) ∧ FR [r, r + 1] G0 G' ∧ x_Fin xFL G') 17 [some (vR r), some (vL w), none, some (vI n), some (vI i)] [] L G 0 0 := by
  intro k
  induction k with
  | zero =>
    intro i G hi h1 h2 hR hF
    have hi : i = n := by omega
    subst hi
    refine x_iload (pc := 17) dX10_become_17 rfl ?_
    refine x_aloadn (pc := 19) dX10_become_19 rfl ?_
    refine x_getI (pc := 20) dX10_become_20 fl_X10_15 (wd_k h).1 (wd_m h hL 0 (by decide)) ?_
    refine x_cge (tgt := 45) (pc := 23) dX10_become_23 (by decide) (by omega) (fun c_23 => ?_) (fun c_23 => ?_)
    rotate_left
    · skip
      exact absurd c_23 (by omega)
    refine x_rV (pc := 45) dX10_become_45 rfl ?_
    exact ⟨h1, h2, hR, hF⟩
  | succ k ih =>
    intro i G hi h1 h2 hR hF
    refine x_iload (pc := 17) dX10_become_17 rfl ?_
    refine x_aloadn (pc := 19) dX10_become_19 rfl ?_
    refine x_getI (pc := 20) dX10_become_20 fl_X10_15 (wd_k h).1 (wd_m h hL 0 (by decide)) ?_
    refine x_cge (tgt := 45) (pc := 23) dX10_become_23 (by decide) (by omega) (fun c_23 => ?_) (fun c_23 => ?_)
    · skip
      exact absurd c_23 (by omega)
    refine x_aloadn (pc := 26) dX10_become_26 rfl ?_
    refine x_getR (r + 1) (pc := 27) dX10_become_27 fl_X10_11 (wd_k h).1 (wd_m h hL 0 (by decide)) (wd_f0 h hF) ?_
    refine x_iload (pc := 30) dX10_become_30 rfl ?_
    refine x_lloadn (pc := 32) dX10_become_32 rfl ?_
    refine x_iload (pc := 33) dX10_become_33 rfl ?_
    refine x_cSNI (pc := 35) dX10_become_35 lk_X10_28 (c_ts_letterOf hw (by omega)) (⟨by decide, by decide⟩) (Nat.le_of_ble_eq_true rfl) rfl ?_
    rintro x G' ⟨rfl, rfl⟩
    refine x_iastF (i) (pc := 38) dX10_become_38 (wd_k h).2 (wd_m h hL 1 (by decide)) (⟨by omega, by omega, by decide⟩) hF (fun hF => ?_)
    refine x_iinc (pc := 39) dX10_become_39 rfl (by decide) rfl ?_
    refine x_goto (tgt := 17) (pc := 42) dX10_become_42 (by decide) ?_
    refine ih (i + 1) _ (by omega) (by rw [x_up_ne (by omega)]; exact h1) (fun j hj => ?_) (hR.up (by simp)) hF
    by_cases c : j = i
    · subst c; exact x_up_s
    · rw [x_up_k c]; exact h2 j (by omega)
theorem c_Wd_be {r n : Nat} {w : Int} {L : List Nat} {G : Nat → Nat → Int} (h : xWd r) (hL : x_SL L) (hF : x_Fin xFL G) (hw : -9223372036854775808 ≤ w ∧ w < 9223372036854775808) (hn : n ≤ 30) :
    CM yX10_become mX10_become 1 0 0 [vR r, vL w, vI n] L G (qV L fun G' => G' r 1 = n ∧ (∀ j, j < n → G' (r + 1) j = zlet w j) ∧ FR [r, r + 1] G G' ∧ x_Fin xFL G') := by
  refine Ct.of_X (μ := mX10_become) rfl rfl (by decide) (fun h => by cases h) (Nat.le_of_ble_eq_true rfl) rfl ?_
  refine x_aloadn (pc := 0) dX10_become_0 rfl ?_
  refine x_iconst (pc := 1) dX10_become_1 ?_
  refine x_iloadn (pc := 2) dX10_become_2 rfl ?_
  refine x_bipush (pc := 3) dX10_become_3 (by decide) ?_
  refine x_mmin (pc := 5) dX10_become_5 lk_X10_19 (by omega) (Nat.le_of_ble_eq_true rfl) (by omega) ?_
  refine x_mmax (pc := 8) dX10_become_8 lk_X10_25 (by omega) (Nat.le_of_ble_eq_true rfl) (by omega) ?_
  have em : max (0 : Int) (min (n : Int) 30) = n := by omega
  rw [em]
  refine x_putIF (pc := 11) dX10_become_11 fp_X10_15 (wd_k h).1 (wd_m h hL 0 (by decide)) hF (fun hF => ?_)
  refine x_iconst (pc := 14) dX10_become_14 ?_
  refine x_istore (pc := 15) dX10_become_15 (by decide) rfl ?_
  exact l_Wd_be h hL hw hn n 0 _ (by omega) x_up_s (fun j hj => absurd hj (Nat.not_lt_zero j)) (FR.rf.up (by simp)) hF
abbrev zln (w : Int) (j : Nat) : Nat := (zlet w j).toNat
theorem zln_eq (w : Int) (j : Nat) : zlet w j = (zln w j : Int) := by have := zlet_bd w j; unfold zln; omega
theorem c_ts_word {dn : Nat → Nat} {dl : Nat → Nat → Nat} {i w n : Int} {L : List Nat} {G : Nat → Nat → Int} (hL : x_SL L) (hF : x_Fin xFL G) (hD : cDk dn dl G) (hi : -2147483648 ≤ i ∧ i < 2147483648) (hw : -9223372036854775808 ≤ w ∧ w < 9223372036854775808) (hn : -2147483648 ≤ n ∧ n < 2147483648) :
    CM yX11_word mX11_word 2 0 0 [vR 1, vI i, vL w, vI n] L G (qI L fun x G' => (¬ (0 ≤ i ∧ i < 4) ∧ x = -2 ∧ G' = G) ∨ ((0 ≤ i ∧ i < 4) ∧ ¬ (0 ≤ n ∧ n ≤ 30 ∧ zgood w n.toNat) ∧ x = -3 ∧ G' = G) ∨ ((0 ≤ i ∧ i < 4) ∧ (0 ≤ n ∧ n ≤ 30 ∧ zgood w n.toNat) ∧ x = 1 ∧ cDk (zup dn i.toNat n.toNat) (zup dl i.toNat (zln w)) G' ∧ FQ [] 99 127 G G' ∧ x_Fin xFL G')) := by
  refine Ct.of_X (μ := mX11_word) rfl rfl (by decide) (fun h => by cases h) (Nat.le_of_ble_eq_true rfl) rfl ?_
  refine x_iloadn (pc := 0) dX11_word_0 rfl ?_
  refine x_cSI (pc := 1) dX11_word_1 lk_X11_105 (c_ts_none hi) (⟨by decide, by decide⟩) (Nat.le_of_ble_eq_true rfl) rfl ?_
  rintro x G' ⟨rfl, rfl⟩
  refine x_ieq (tgt := 10) (pc := 4) dX11_word_4 (by decide) (by split <;> omega) (fun c_4 => ?_) (fun c_4 => ?_)
  · skip
    refine x_iload (pc := 10) dX11_word_10 rfl ?_
    refine x_ilt (tgt := 31) (pc := 12) dX11_word_12 (by decide) (by omega) (fun c_12 => ?_) (fun c_12 => ?_)
    · skip
      refine x_bipush (pc := 31) dX11_word_31 (by decide) ?_
      refine x_rI (pc := 33) dX11_word_33 rfl ?_
      refine Or.inr (Or.inl ⟨by split at c_4 <;> omega, ?_, rfl, rfl⟩)
      intro q
      first | omega | (rcases hx with hx | hx; omega; exact hx.2 q.2.2)
    · skip
      refine x_iload (pc := 15) dX11_word_15 rfl ?_
      refine x_bipush (pc := 17) dX11_word_17 (by decide) ?_
      refine x_cgt (tgt := 31) (pc := 19) dX11_word_19 (by decide) (by omega) (fun c_19 => ?_) (fun c_19 => ?_)
      · skip
        refine x_bipush (pc := 31) dX11_word_31 (by decide) ?_
        refine x_rI (pc := 33) dX11_word_33 rfl ?_
        refine Or.inr (Or.inl ⟨by split at c_4 <;> omega, ?_, rfl, rfl⟩)
        intro q
        first | omega | (rcases hx with hx | hx; omega; exact hx.2 q.2.2)
      · skip
        refine x_lloadn (pc := 22) dX11_word_22 rfl ?_
        refine x_iload (pc := 23) dX11_word_23 rfl ?_
        refine x_cSI (pc := 25) dX11_word_25 lk_X11_128 (c_ts_hasNo (w := w) hw (by omega)) (⟨by decide, by decide⟩) (Nat.le_of_ble_eq_true rfl) rfl ?_
        rintro x G' ⟨hx, hG⟩
        subst hG
        refine x_ieq (tgt := 34) (pc := 28) dX11_word_28 (by decide) (by omega) (fun c_28 => ?_) (fun c_28 => ?_)
        · skip
          have g0 : 0 ≤ i ∧ i < 4 := by split at c_4 <;> omega
          have g1 : zgood w n.toNat := by rcases hx with hx | hx; exact hx.2; omega
          obtain ⟨i, rfl⟩ : ∃ j : Nat, i = j := ⟨i.toNat, by omega⟩
          obtain ⟨n, rfl⟩ : ∃ j : Nat, n = j := ⟨n.toNat, by omega⟩
          have hx := dk_w (i := i) (by omega)
          refine x_aloadn (pc := 34) dX11_word_34 rfl ?_
          refine x_getR (83) (pc := 35) dX11_word_35 fl_X11_39 k_1 (hL 1 (by decide) (by decide)) (f_1_4 hF) ?_
          refine x_iloadn (pc := 38) dX11_word_38 rfl ?_
          refine x_aald (99 + 7 * i) (i) (pc := 39) dX11_word_39 k_83 (by decide) (hL 83 (by decide) (by decide)) (⟨by omega, by omega, by decide⟩) (hF _ (dk_fl i (by omega))) ?_
          refine x_lloadn (pc := 40) dX11_word_40 rfl ?_
          refine x_iload (pc := 41) dX11_word_41 rfl ?_
          refine x_cVV (pc := 43) dX11_word_43 lk_X11_164 (c_Wd_be hx hL hF hw (by omega)) (wd_k hx).1 ⟨by decide, rfl⟩ (wd_m hx hL 0 (by decide)) (⟨by decide, by decide⟩) (Nat.le_of_ble_eq_true rfl) rfl ?_
          rintro G' ⟨a1, a2, a3, hF⟩
          refine x_iconst (pc := 46) dX11_word_46 ?_
          refine x_rI (pc := 47) dX11_word_47 rfl ?_
          refine Or.inr (Or.inr ⟨g0, ⟨by omega, by omega, g1⟩, rfl, fun q hq => ?_, a3.q (by simp; omega), hF⟩)
          rw [Int.toNat_natCast, Int.toNat_natCast]
          by_cases c : q = i
          · subst c
            rw [zup_s, zup_s]
            refine ⟨a1, by omega, fun j hj => ?_⟩
            have := g1 j (by omega)
            have := zlet_bd w j
            exact ⟨by rw [a2 j hj]; exact zln_eq w j, by unfold zln; omega⟩
          · rw [zup_n c, zup_n c]
            obtain ⟨b1, b2, b3⟩ := hD q hq
            refine ⟨by rw [a3 _ (by simp; omega)]; exact b1, b2, fun j hj => ?_⟩
            rw [a3 _ (by simp; omega)]; exact b3 j hj
        · skip
          refine x_bipush (pc := 31) dX11_word_31 (by decide) ?_
          refine x_rI (pc := 33) dX11_word_33 rfl ?_
          refine Or.inr (Or.inl ⟨by split at c_4 <;> omega, ?_, rfl, rfl⟩)
          intro q
          first | omega | (rcases hx with hx | hx; omega; exact hx.2 q.2.2)
  · skip
    refine x_bipush (pc := 7) dX11_word_7 (by decide) ?_
    refine x_rI (pc := 9) dX11_word_9 rfl ?_
    exact Or.inl ⟨by split at c_4 <;> omega, rfl, rfl⟩

