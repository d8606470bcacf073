/-! the reference's answers on the desk -/
theorem l_mo_part {dn : Nat → Nat} {dl : Nat → Nat → Nat} {i : Nat} {K : Int} {L : List Nat} {G : Nat → Nat → Int} (hL : x_SL L) (hF : x_Fin xFL G) (hD : mDk dn dl G) (hi : i < 4) (hK : 0 ≤ K ∧ K < 2147483648) :
    ∀ (k p m : Nat) (z : Int), dn i < p + k → p ≤ dn i → m ≤ p → zfk (zpf (dl i) (dn i)) (dn i) K.toNat k p m = z → X mX12_part 2 0 0 (qI L fun x G' => x = z ∧ G' = G) 22 [some (vR 127), some (vI i), some (vI K), some (vI m), some (vI p)] [] L G 0 0 := by
  obtain ⟨d1, d2, d3⟩ := hD i hi
  intro k
  induction k with
  | zero => intro p m z hp hpn hm hz; omega
  | succ k ih =>
    intro p m z hp hpn hm hz
    rw [zfk] at hz
    by_cases c : p < dn i
    · rw [if_pos c] at hz
      have hb := zpf_bd (f := dl i) c
      refine x_iload (pc := 22) dX12_part_22 rfl ?_
      refine x_aloadn (pc := 24) dX12_part_24 rfl ?_
      refine x_getR (137) (pc := 25) dX12_part_25 fl_X12_37 k_127 (hL 127 (by decide) (by decide)) (f_127_12 hF) ?_
      refine x_iloadn (pc := 28) dX12_part_28 rfl ?_
      refine x_iald (i) (pc := 29) dX12_part_29 k_137 (hL 137 (by decide) (by decide)) (⟨by omega, by omega, by decide⟩) ?_
      refine x_cge (tgt := 64) (pc := 30) dX12_part_30 (by decide) (by omega) (fun c_30 => ?_) (fun c_30 => ?_)
      · skip
        exact absurd c_30 (by omega)
      refine x_iloadn (pc := 33) dX12_part_33 rfl ?_
      refine x_iloadn (pc := 34) dX12_part_34 rfl ?_
      refine x_cne (tgt := 46) (pc := 35) dX12_part_35 (by decide) (by omega) (fun c_35 => ?_) (fun c_35 => ?_)
      · skip
        refine x_iinc (pc := 46) dX12_part_46 rfl (by decide) rfl ?_
        refine x_iload (pc := 49) dX12_part_49 rfl ?_
        refine x_aloadn (pc := 51) dX12_part_51 rfl ?_
        refine x_iloadn (pc := 52) dX12_part_52 rfl ?_
        refine x_iload (pc := 53) dX12_part_53 rfl ?_
        refine x_cVI (pc := 55) dX12_part_55 lk_X12_302 (c_mo_pf hL hF hD hi c) k_127 ⟨by decide, rfl⟩ (hL 127 (by decide) (by decide)) (⟨by decide, by decide⟩) (Nat.le_of_ble_eq_true rfl) rfl ?_
        rintro x G' ⟨rfl, rfl⟩
        refine x_iadd (pc := 58) dX12_part_58 ?_
        refine x_istore (pc := 59) dX12_part_59 (by decide) rfl ?_
        refine x_goto (tgt := 22) (pc := 61) dX12_part_61 (by decide) ?_
        exact ih (p + zpf (dl i) (dn i) p) (m + 1) z (by omega) (by omega) (by omega) (by rw [if_neg (by omega)] at hz; exact hz)
      · skip
        refine x_aloadn (pc := 38) dX12_part_38 rfl ?_
        refine x_iloadn (pc := 39) dX12_part_39 rfl ?_
        refine x_iload (pc := 40) dX12_part_40 rfl ?_
        refine x_cVI (pc := 42) dX12_part_42 lk_X12_302 (c_mo_pf hL hF hD hi c) k_127 ⟨by decide, rfl⟩ (hL 127 (by decide) (by decide)) (⟨by decide, by decide⟩) (Nat.le_of_ble_eq_true rfl) rfl ?_
        rintro x G' ⟨rfl, rfl⟩
        refine x_rI (pc := 45) dX12_part_45 rfl ?_
        exact ⟨by rw [if_pos (by omega)] at hz; exact hz, rfl⟩
    · rw [if_neg c] at hz
      refine x_iload (pc := 22) dX12_part_22 rfl ?_
      refine x_aloadn (pc := 24) dX12_part_24 rfl ?_
      refine x_getR (137) (pc := 25) dX12_part_25 fl_X12_37 k_127 (hL 127 (by decide) (by decide)) (f_127_12 hF) ?_
      refine x_iloadn (pc := 28) dX12_part_28 rfl ?_
      refine x_iald (i) (pc := 29) dX12_part_29 k_137 (hL 137 (by decide) (by decide)) (⟨by omega, by omega, by decide⟩) ?_
      refine x_cge (tgt := 64) (pc := 30) dX12_part_30 (by decide) (by omega) (fun c_30 => ?_) (fun c_30 => ?_)
      rotate_left
      · skip
        exact absurd c_30 (by omega)
      refine x_iconst (pc := 64) dX12_part_64 ?_
      refine x_rI (pc := 65) dX12_part_65 rfl ?_
      exact ⟨hz, rfl⟩
theorem c_mo_part {dn : Nat → Nat} {dl : Nat → Nat → Nat} {i k : Int} {L : List Nat} {G : Nat → Nat → Int} (hL : x_SL L) (hF : x_Fin xFL G) (hD : mDk dn dl G) (hi : -2147483648 ≤ i ∧ i < 2147483648) (hk : -2147483648 ≤ k ∧ k < 2147483648) :
    CM yX12_part mX12_part 2 0 0 [vR 127, vI i, vI k] L G (qI L fun x G' => x = (if ¬ (0 ≤ i ∧ i < 4) then -2 else if k < 0 then -3 else zfk (zfl (dl i.toNat) (dn i.toNat)) (dn i.toNat) k.toNat (dn i.toNat + 1) 0 0) ∧ G' = G) := by
  refine Ct.of_X (μ := mX12_part) rfl rfl (by decide) (fun h => by cases h) (Nat.le_of_ble_eq_true rfl) rfl ?_
  refine x_iloadn (pc := 0) dX12_part_0 rfl ?_
  refine x_cSI (pc := 1) dX12_part_1 lk_X12_286 (c_mo_isWord hi) (⟨by decide, by decide⟩) (Nat.le_of_ble_eq_true rfl) rfl ?_
  rintro x G' ⟨rfl, rfl⟩
  refine x_ine (tgt := 10) (pc := 4) dX12_part_4 (by decide) (by split <;> omega) (fun c_4 => ?_) (fun c_4 => ?_)
  · skip
    refine x_iloadn (pc := 10) dX12_part_10 rfl ?_
    refine x_ige (tgt := 17) (pc := 11) dX12_part_11 (by decide) (by omega) (fun c_11 => ?_) (fun c_11 => ?_)
    · skip
      have g0 : 0 ≤ i ∧ i < 4 := by split at c_4 <;> omega
      rw [if_neg (by omega), if_neg (by omega)]
      obtain ⟨i, rfl⟩ : ∃ j : Nat, i = j := ⟨i.toNat, by omega⟩
      rw [Int.toNat_natCast, ← zfk_eq]
      refine x_iconst (pc := 17) dX12_part_17 ?_
      refine x_istoren (pc := 18) dX12_part_18 rfl (by decide) rfl ?_
      refine x_iconst (pc := 19) dX12_part_19 ?_
      refine x_istore (pc := 20) dX12_part_20 (by decide) rfl ?_
      exact l_mo_part (i := i) (K := k) hL hF hD (by omega) (by omega) (dn i + 1) 0 0 _ (by omega) (by omega) (by omega) rfl
    · skip
      refine x_bipush (pc := 14) dX12_part_14 (by decide) ?_
      refine x_rI (pc := 16) dX12_part_16 rfl ?_
      exact ⟨by rw [if_neg (by split at c_4 <;> omega), if_pos (by omega)], rfl⟩
  · skip
    refine x_bipush (pc := 7) dX12_part_7 (by decide) ?_
    refine x_rI (pc := 9) dX12_part_9 rfl ?_
    exact ⟨by rw [if_pos (by split at c_4 <;> omega)], rfl⟩
theorem l_mo_of6 {dn : Nat → Nat} {dl : Nat → Nat → Nat} {i : Nat} {w : Int} {L : List Nat} {G : Nat → Nat → Int} (hL : x_SL L) (hF : x_Fin xFL G) (hD : mDk dn dl G) (hi : i < 4) :
    ∀ (k p : Nat), p + k = dn i → X mX12_of 3 0 0 (qI L fun x G' => x = zcn (zper (dl i) (dn i)) (dn i) ∧ G' = G) 104 [some (vR 127), some (vI i), some (vI w), some (vI (zcn (zper (dl i) (dn i)) p)), some (vI ((p + 1 : Nat) : Int))] [] L G 0 0 := by
  obtain ⟨d1, d2, d3⟩ := hD i hi
  intro k
  induction k with
  | zero =>
    intro p hp
    refine x_iload (pc := 104) dX12_of_104 rfl ?_
    refine x_aloadn (pc := 106) dX12_of_106 rfl ?_
    refine x_getR (137) (pc := 107) dX12_of_107 fl_X12_37 k_127 (hL 127 (by decide) (by decide)) (f_127_12 hF) ?_
    refine x_iloadn (pc := 110) dX12_of_110 rfl ?_
    refine x_iald (i) (pc := 111) dX12_of_111 k_137 (hL 137 (by decide) (by decide)) (⟨by omega, by omega, by decide⟩) ?_
    refine x_cgt (tgt := 139) (pc := 112) dX12_of_112 (by decide) (by omega) (fun c_112 => ?_) (fun c_112 => ?_)
    rotate_left
    · skip
      exact absurd c_112 (by omega)
    refine x_iloadn (pc := 139) dX12_of_139 rfl ?_
    refine x_rI (pc := 140) dX12_of_140 rfl ?_
    exact ⟨by rw [show dn i = p by omega], rfl⟩
  | succ k ih =>
    intro p hp
    have hle := zcn_le (g := zper (dl i) (dn i)) p
    have ih2 := ih (p + 1) (by omega)
    rw [zcn] at ih2
    by_cases c : zper (dl i) (dn i) (p + 1) = true
    · rw [if_pos c] at ih2
      refine x_iload (pc := 104) dX12_of_104 rfl ?_
      refine x_aloadn (pc := 106) dX12_of_106 rfl ?_
      refine x_getR (137) (pc := 107) dX12_of_107 fl_X12_37 k_127 (hL 127 (by decide) (by decide)) (f_127_12 hF) ?_
      refine x_iloadn (pc := 110) dX12_of_110 rfl ?_
      refine x_iald (i) (pc := 111) dX12_of_111 k_137 (hL 137 (by decide) (by decide)) (⟨by omega, by omega, by decide⟩) ?_
      refine x_cgt (tgt := 139) (pc := 112) dX12_of_112 (by decide) (by omega) (fun c_112 => ?_) (fun c_112 => ?_)
      · skip
        exact absurd c_112 (by omega)
      refine x_iloadn (pc := 115) dX12_of_115 rfl ?_
      refine x_aloadn (pc := 116) dX12_of_116 rfl ?_
      refine x_iloadn (pc := 117) dX12_of_117 rfl ?_
      refine x_iload (pc := 118) dX12_of_118 rfl ?_
      refine x_cVI (pc := 120) dX12_of_120 lk_X12_291 (c_mo_per (p := p + 1) hL hF hD hi (by omega)) k_127 ⟨by decide, rfl⟩ (hL 127 (by decide) (by decide)) (⟨by decide, by decide⟩) (Nat.le_of_ble_eq_true rfl) rfl ?_
      rintro x G' ⟨hx, hG⟩
      subst hG
      rw [if_pos c] at hx
      subst hx
      refine x_ieq (tgt := 130) (pc := 123) dX12_of_123 (by decide) (by omega) (fun c_123 => ?_) (fun c_123 => ?_)
      · skip
        exact absurd c_123 (by decide)
      refine x_iconst (pc := 126) dX12_of_126 ?_
      refine x_goto (tgt := 131) (pc := 127) dX12_of_127 (by decide) ?_
      refine x_iadd (pc := 131) dX12_of_131 ?_
      refine x_istoren (pc := 132) dX12_of_132 rfl (by decide) rfl ?_
      refine x_iinc (pc := 133) dX12_of_133 rfl (by decide) rfl ?_
      refine x_goto (tgt := 104) (pc := 136) dX12_of_136 (by decide) ?_
      exact ih2
    · rw [if_neg c] at ih2
      refine x_iload (pc := 104) dX12_of_104 rfl ?_
      refine x_aloadn (pc := 106) dX12_of_106 rfl ?_
      refine x_getR (137) (pc := 107) dX12_of_107 fl_X12_37 k_127 (hL 127 (by decide) (by decide)) (f_127_12 hF) ?_
      refine x_iloadn (pc := 110) dX12_of_110 rfl ?_
      refine x_iald (i) (pc := 111) dX12_of_111 k_137 (hL 137 (by decide) (by decide)) (⟨by omega, by omega, by decide⟩) ?_
      refine x_cgt (tgt := 139) (pc := 112) dX12_of_112 (by decide) (by omega) (fun c_112 => ?_) (fun c_112 => ?_)
      · skip
        exact absurd c_112 (by omega)
      refine x_iloadn (pc := 115) dX12_of_115 rfl ?_
      refine x_aloadn (pc := 116) dX12_of_116 rfl ?_
      refine x_iloadn (pc := 117) dX12_of_117 rfl ?_
      refine x_iload (pc := 118) dX12_of_118 rfl ?_
      refine x_cVI (pc := 120) dX12_of_120 lk_X12_291 (c_mo_per (p := p + 1) hL hF hD hi (by omega)) k_127 ⟨by decide, rfl⟩ (hL 127 (by decide) (by decide)) (⟨by decide, by decide⟩) (Nat.le_of_ble_eq_true rfl) rfl ?_
      rintro x G' ⟨hx, hG⟩
      subst hG
      rw [if_neg c] at hx
      subst hx
      refine x_ieq (tgt := 130) (pc := 123) dX12_of_123 (by decide) (by omega) (fun c_123 => ?_) (fun c_123 => ?_)
      rotate_left
      · skip
        exact absurd rfl c_123
      refine x_iconst (pc := 130) dX12_of_130 ?_
      refine x_iadd (pc := 131) dX12_of_131 ?_
      refine x_istoren (pc := 132) dX12_of_132 rfl (by decide) rfl ?_
      refine x_iinc (pc := 133) dX12_of_133 rfl (by decide) rfl ?_
      refine x_goto (tgt := 104) (pc := 136) dX12_of_136 (by decide) ?_
      exact ih2
theorem c_mo_of {dn : Nat → Nat} {dl : Nat → Nat → Nat} {i w : Int} {L : List Nat} {G : Nat → Nat → Int} (hL : x_SL L) (hF : x_Fin xFL G) (hD : mDk dn dl G) (hi : -2147483648 ≤ i ∧ i < 2147483648) (hw : -2147483648 ≤ w ∧ w < 2147483648) :
    CM yX12_of mX12_of 3 0 0 [vR 127, vI i, vI w] L G (qI L fun x G' => x = (if ¬ (0 ≤ i ∧ i < 4) then -2 else zof (dl i.toNat) (dn i.toNat) w) ∧ G' = G) := by
  refine Ct.of_X (μ := mX12_of) rfl rfl (by decide) (fun h => by cases h) (Nat.le_of_ble_eq_true rfl) rfl ?_
  by_cases g0 : 0 ≤ i ∧ i < 4
  · rw [if_neg (by omega)]
    obtain ⟨i, rfl⟩ : ∃ j : Nat, i = j := ⟨i.toNat, by omega⟩
    obtain ⟨d1, d2, d3⟩ := hD i (by omega)
    rw [Int.toNat_natCast]
    have hb := zltb_le (dl i) (dn i) (dn i - 1)
    refine x_iloadn (pc := 0) dX12_of_0 rfl ?_
    refine x_cSI (pc := 1) dX12_of_1 lk_X12_286 (c_mo_isWord hi) (⟨by decide, by decide⟩) (Nat.le_of_ble_eq_true rfl) rfl ?_
    rintro x G' ⟨rfl, rfl⟩
    refine x_ine (tgt := 10) (pc := 4) dX12_of_4 (by decide) (by split <;> omega) (fun c_4 => ?_) (fun c_4 => ?_)
    rotate_left
    · skip
      exact absurd c_4 (by split <;> omega)
    refine x_iloadn (pc := 10) dX12_of_10 rfl ?_
    rcases (show w < 0 ∨ 6 < w ∨ w = 0 ∨ w = 1 ∨ w = 2 ∨ w = 3 ∨ w = 4 ∨ w = 5 ∨ w = 6 by omega) with t_11 | t_11 | rfl | rfl | rfl | rfl | rfl | rfl | rfl
    · refine x_tabOut (tgt := 141) (pc := 11) dX12_of_11 (by omega) (by omega) (by decide) ?_
      refine x_bipush (pc := 141) dX12_of_141 (by decide) ?_
      refine x_rI (pc := 143) dX12_of_143 rfl ?_
      refine ⟨?_, rfl⟩
      unfold zof
      rw [← zfc_eq]
      (repeat' split) <;> omega
    · refine x_tabOut (tgt := 141) (pc := 11) dX12_of_11 (by omega) (by omega) (by decide) ?_
      refine x_bipush (pc := 141) dX12_of_141 (by decide) ?_
      refine x_rI (pc := 143) dX12_of_143 rfl ?_
      refine ⟨?_, rfl⟩
      unfold zof
      rw [← zfc_eq]
      (repeat' split) <;> omega
    · refine x_tabIn (off := 41) (tgt := 52) (pc := 11) dX12_of_11 (by decide) rfl (by decide) ?_
      refine x_aloadn (pc := 52) dX12_of_52 rfl ?_
      refine x_getR (137) (pc := 53) dX12_of_53 fl_X12_37 k_127 (hL 127 (by decide) (by decide)) (f_127_12 hF) ?_
      refine x_iloadn (pc := 56) dX12_of_56 rfl ?_
      refine x_iald (i) (pc := 57) dX12_of_57 k_137 (hL 137 (by decide) (by decide)) (⟨by omega, by omega, by decide⟩) ?_
      refine x_rI (pc := 58) dX12_of_58 rfl ?_
      refine ⟨?_, rfl⟩
      unfold zof
      rw [← zfc_eq]
      (repeat' split) <;> omega
    · refine x_tabIn (off := 48) (tgt := 59) (pc := 11) dX12_of_11 (by decide) rfl (by decide) ?_
      refine x_aloadn (pc := 59) dX12_of_59 rfl ?_
      refine x_iloadn (pc := 60) dX12_of_60 rfl ?_
      refine x_iconst (pc := 61) dX12_of_61 ?_
      refine x_cVI (pc := 62) dX12_of_62 lk_X12_305 (c_mo_lp hL hF hD (by omega) (Or.inr rfl)) k_127 ⟨by decide, rfl⟩ (hL 127 (by decide) (by decide)) (⟨by decide, by decide⟩) (Nat.le_of_ble_eq_true rfl) rfl ?_
      rintro x G' ⟨rfl, rfl⟩
      refine x_rI (pc := 65) dX12_of_65 rfl ?_
      refine ⟨?_, rfl⟩
      unfold zof
      rw [← zfc_eq]
      (repeat' split) <;> omega
    · refine x_tabIn (off := 55) (tgt := 66) (pc := 11) dX12_of_11 (by decide) rfl (by decide) ?_
      refine x_aloadn (pc := 66) dX12_of_66 rfl ?_
      refine x_getR (137) (pc := 67) dX12_of_67 fl_X12_37 k_127 (hL 127 (by decide) (by decide)) (f_127_12 hF) ?_
      refine x_iloadn (pc := 70) dX12_of_70 rfl ?_
      refine x_iald (i) (pc := 71) dX12_of_71 k_137 (hL 137 (by decide) (by decide)) (⟨by omega, by omega, by decide⟩) ?_
      refine x_aloadn (pc := 72) dX12_of_72 rfl ?_
      refine x_iloadn (pc := 73) dX12_of_73 rfl ?_
      refine x_iconst (pc := 74) dX12_of_74 ?_
      refine x_cVI (pc := 75) dX12_of_75 lk_X12_305 (c_mo_lp hL hF hD (by omega) (Or.inl rfl)) k_127 ⟨by decide, rfl⟩ (hL 127 (by decide) (by decide)) (⟨by decide, by decide⟩) (Nat.le_of_ble_eq_true rfl) rfl ?_
      rintro x G' ⟨rfl, rfl⟩
      refine x_isub (pc := 78) dX12_of_78 ?_
      refine x_rI (pc := 79) dX12_of_79 rfl ?_
      refine ⟨?_, rfl⟩
      unfold zof
      rw [← zfc_eq]
      (repeat' split) <;> omega
    · refine x_tabIn (off := 69) (tgt := 80) (pc := 11) dX12_of_11 (by decide) rfl (by decide) ?_
      refine x_aloadn (pc := 80) dX12_of_80 rfl ?_
      refine x_iloadn (pc := 81) dX12_of_81 rfl ?_
      refine x_cVI (pc := 82) dX12_of_82 lk_X12_309 (c_mo_lt hL hF hD (by omega)) k_127 ⟨by decide, rfl⟩ (hL 127 (by decide) (by decide)) (⟨by decide, by decide⟩) (Nat.le_of_ble_eq_true rfl) rfl ?_
      rintro x G' ⟨rfl, rfl⟩
      refine x_rI (pc := 85) dX12_of_85 rfl ?_
      refine ⟨?_, rfl⟩
      unfold zof
      rw [← zfc_eq]
      (repeat' split) <;> omega
    · refine x_tabIn (off := 75) (tgt := 86) (pc := 11) dX12_of_11 (by decide) rfl (by decide) ?_
      refine x_aloadn (pc := 86) dX12_of_86 rfl ?_
      refine x_iloadn (pc := 87) dX12_of_87 rfl ?_
      refine x_cVI (pc := 88) dX12_of_88 lk_X12_312 (c_mo_parts hL hF hD (by omega)) k_127 ⟨by decide, rfl⟩ (hL 127 (by decide) (by decide)) (⟨by decide, by decide⟩) (Nat.le_of_ble_eq_true rfl) rfl ?_
      rintro x G' ⟨rfl, rfl⟩
      refine x_rI (pc := 91) dX12_of_91 rfl ?_
      refine ⟨?_, rfl⟩
      unfold zof
      rw [← zfc_eq]
      (repeat' split) <;> omega
    · refine x_tabIn (off := 81) (tgt := 92) (pc := 11) dX12_of_11 (by decide) rfl (by decide) ?_
      refine x_aloadn (pc := 92) dX12_of_92 rfl ?_
      refine x_iloadn (pc := 93) dX12_of_93 rfl ?_
      refine x_iconst (pc := 94) dX12_of_94 ?_
      refine x_cVI (pc := 95) dX12_of_95 lk_X12_305 (c_mo_lp hL hF hD (by omega) (Or.inl rfl)) k_127 ⟨by decide, rfl⟩ (hL 127 (by decide) (by decide)) (⟨by decide, by decide⟩) (Nat.le_of_ble_eq_true rfl) rfl ?_
      rintro x G' ⟨rfl, rfl⟩
      refine x_rI (pc := 98) dX12_of_98 rfl ?_
      refine ⟨?_, rfl⟩
      unfold zof
      rw [← zfc_eq]
      (repeat' split) <;> omega
    · refine x_tabIn (off := 88) (tgt := 99) (pc := 11) dX12_of_11 (by decide) rfl (by decide) ?_
      refine x_iconst (pc := 99) dX12_of_99 ?_
      refine x_istoren (pc := 100) dX12_of_100 rfl (by decide) rfl ?_
      refine x_iconst (pc := 101) dX12_of_101 ?_
      refine x_istore (pc := 102) dX12_of_102 (by decide) rfl ?_
      exact l_mo_of6 hL hF hD (by omega) (dn i) 0 (by omega)
  · rw [if_pos g0]
    refine x_iloadn (pc := 0) dX12_of_0 rfl ?_
    refine x_cSI (pc := 1) dX12_of_1 lk_X12_286 (c_mo_isWord hi) (⟨by decide, by decide⟩) (Nat.le_of_ble_eq_true rfl) rfl ?_
    rintro x G' ⟨rfl, rfl⟩
    refine x_ine (tgt := 10) (pc := 4) dX12_of_4 (by decide) (by split <;> omega) (fun c_4 => ?_) (fun c_4 => ?_)
    · skip
      exact absurd c_4 (by split <;> omega)
    refine x_bipush (pc := 7) dX12_of_7 (by decide) ?_
    refine x_rI (pc := 9) dX12_of_9 rfl ?_
    exact ⟨rfl, rfl⟩
theorem c_mo_be {dn : Nat → Nat} {dl : Nat → Nat → Nat} {i j k : Nat} {L : List Nat} {G : Nat → Nat → Int} (hL : x_SL L) (hF : x_Fin xFL G) (hD : mDk dn dl G) (hi : i < 4) (hj : j < 4) (hk : k < dn i + dn j) :
    CM yX12_behind mX12_behind 0 0 0 [vR 127, vI i, vI j, vI k] L G (qI L fun x G' => x = zbh (dn i) (dl i) (dl j) k ∧ G' = G) := by
  obtain ⟨d1, d2, d3⟩ := hD i hi
  obtain ⟨e1, e2, e3⟩ := hD j hj
  refine Ct.of_X (μ := mX12_behind) rfl rfl (by decide) (fun h => by cases h) (Nat.le_of_ble_eq_true rfl) rfl ?_
  unfold zbh
  by_cases c : k < dn i
  · have a1 := (d3 k c).1
    rw [if_pos c]
    refine x_iloadn (pc := 0) dX12_behind_0 rfl ?_
    refine x_aloadn (pc := 1) dX12_behind_1 rfl ?_
    refine x_getR (137) (pc := 2) dX12_behind_2 fl_X12_37 k_127 (hL 127 (by decide) (by decide)) (f_127_12 hF) ?_
    refine x_iloadn (pc := 5) dX12_behind_5 rfl ?_
    refine x_iald (i) (pc := 6) dX12_behind_6 k_137 (hL 137 (by decide) (by decide)) (⟨by omega, by omega, by decide⟩) ?_
    refine x_cge (tgt := 24) (pc := 7) dX12_behind_7 (by decide) (by omega) (fun c_7 => ?_) (fun c_7 => ?_)
    · skip
      exact absurd c_7 (by omega)
    refine x_aloadn (pc := 10) dX12_behind_10 rfl ?_
    refine x_getR (136) (pc := 11) dX12_behind_11 fl_X12_34 k_127 (hL 127 (by decide) (by decide)) (f_127_11 hF) ?_
    refine x_bipush (pc := 14) dX12_behind_14 (by decide) ?_
    refine x_iloadn (pc := 16) dX12_behind_16 rfl ?_
    refine x_imul (pc := 17) dX12_behind_17 ?_
    refine x_iloadn (pc := 18) dX12_behind_18 rfl ?_
    refine x_iadd (pc := 19) dX12_behind_19 ?_
    refine x_iald (30 * i + k) (pc := 20) dX12_behind_20 k_136 (hL 136 (by decide) (by decide)) (⟨by omega, by omega, by decide⟩) ?_
    refine x_goto (tgt := 42) (pc := 21) dX12_behind_21 (by decide) ?_
    refine x_rI (pc := 42) dX12_behind_42 rfl ?_
    exact ⟨a1, rfl⟩
  · have a1 := (e3 (k - dn i) (by omega)).1
    rw [if_neg c]
    refine x_iloadn (pc := 0) dX12_behind_0 rfl ?_
    refine x_aloadn (pc := 1) dX12_behind_1 rfl ?_
    refine x_getR (137) (pc := 2) dX12_behind_2 fl_X12_37 k_127 (hL 127 (by decide) (by decide)) (f_127_12 hF) ?_
    refine x_iloadn (pc := 5) dX12_behind_5 rfl ?_
    refine x_iald (i) (pc := 6) dX12_behind_6 k_137 (hL 137 (by decide) (by decide)) (⟨by omega, by omega, by decide⟩) ?_
    refine x_cge (tgt := 24) (pc := 7) dX12_behind_7 (by decide) (by omega) (fun c_7 => ?_) (fun c_7 => ?_)
    rotate_left
    · skip
      exact absurd c_7 (by omega)
    refine x_aloadn (pc := 24) dX12_behind_24 rfl ?_
    refine x_getR (136) (pc := 25) dX12_behind_25 fl_X12_34 k_127 (hL 127 (by decide) (by decide)) (f_127_11 hF) ?_
    refine x_bipush (pc := 28) dX12_behind_28 (by decide) ?_
    refine x_iloadn (pc := 30) dX12_behind_30 rfl ?_
    refine x_imul (pc := 31) dX12_behind_31 ?_
    refine x_iloadn (pc := 32) dX12_behind_32 rfl ?_
    refine x_iadd (pc := 33) dX12_behind_33 ?_
    refine x_aloadn (pc := 34) dX12_behind_34 rfl ?_
    refine x_getR (137) (pc := 35) dX12_behind_35 fl_X12_37 k_127 (hL 127 (by decide) (by decide)) (f_127_12 hF) ?_
    refine x_iloadn (pc := 38) dX12_behind_38 rfl ?_
    refine x_iald (i) (pc := 39) dX12_behind_39 k_137 (hL 137 (by decide) (by decide)) (⟨by omega, by omega, by decide⟩) ?_
    refine x_isub (pc := 40) dX12_behind_40 ?_
    refine x_iald (30 * j + (k - dn i)) (pc := 41) dX12_behind_41 k_136 (hL 136 (by decide) (by decide)) (⟨by omega, by omega, by decide⟩) ?_
    refine x_rI (pc := 42) dX12_behind_42 rfl ?_
    exact ⟨a1, rfl⟩
theorem zbh_lt {dn : Nat → Nat} {dl : Nat → Nat → Nat} {G : Nat → Nat → Int} (hD : mDk dn dl G) {i j k : Nat} (hi : i < 4) (hj : j < 4) (hk : k < dn i + dn j) : zbh (dn i) (dl i) (dl j) k < 3 := by
  obtain ⟨d1, d2, d3⟩ := hD i hi
  obtain ⟨e1, e2, e3⟩ := hD j hj
  unfold zbh; split
  · exact (d3 k (by omega)).2
  · exact (e3 (k - dn i) (by omega)).2
theorem l_mo_ag {dn : Nat → Nat} {dl : Nat → Nat → Nat} {i j : Nat} {L : List Nat} {G : Nat → Nat → Int} (hL : x_SL L) (hF : x_Fin xFL G) (hD : mDk dn dl G) (hi : i < 4) (hj : j < 4) :
    ∀ (k t : Nat) (z : Bool) (F : Int), t + k = dn i + dn j → zall (fun k => zbh (dn i) (dl i) (dl j) k == zbh (dn j) (dl j) (dl i) k) t = z → F = (if z = true then 1 else 0) → X mX12_agree 2 0 0 (qI L fun x G' => x = (if zag (dn i) (dn j) (dl i) (dl j) = true then 1 else 0) ∧ G' = G) 22 [some (vR 127), some (vI i), some (vI j), some (vI F), some (vI t)] [] L G 0 0 := by
  obtain ⟨d1, d2, d3⟩ := hD i hi
  obtain ⟨e1, e2, e3⟩ := hD j hj
  intro k
  induction k with
  | zero =>
    intro t z F ht hz hFF
    unfold zag
    rw [show dn i + dn j = t by omega, hz, ← hFF]
    cases z with
    | false =>
      have hFF : F = 0 := hFF
      subst hFF
      refine x_iload (pc := 22) dX12_agree_22 rfl ?_
      refine x_aloadn (pc := 24) dX12_agree_24 rfl ?_
      refine x_getR (137) (pc := 25) dX12_agree_25 fl_X12_37 k_127 (hL 127 (by decide) (by decide)) (f_127_12 hF) ?_
      refine x_iloadn (pc := 28) dX12_agree_28 rfl ?_
      refine x_iald (i) (pc := 29) dX12_agree_29 k_137 (hL 137 (by decide) (by decide)) (⟨by omega, by omega, by decide⟩) ?_
      refine x_aloadn (pc := 30) dX12_agree_30 rfl ?_
      refine x_getR (137) (pc := 31) dX12_agree_31 fl_X12_37 k_127 (hL 127 (by decide) (by decide)) (f_127_12 hF) ?_
      refine x_iloadn (pc := 34) dX12_agree_34 rfl ?_
      refine x_iald (j) (pc := 35) dX12_agree_35 k_137 (hL 137 (by decide) (by decide)) (⟨by omega, by omega, by decide⟩) ?_
      refine x_iadd (pc := 36) dX12_agree_36 ?_
      refine x_cge (tgt := 75) (pc := 37) dX12_agree_37 (by decide) (by omega) (fun c_37 => ?_) (fun c_37 => ?_)
      rotate_left
      · skip
        exact absurd c_37 (by omega)
      refine x_iloadn (pc := 75) dX12_agree_75 rfl ?_
      refine x_ieq (tgt := 83) (pc := 76) dX12_agree_76 (by decide) (by omega) (fun c_76 => ?_) (fun c_76 => ?_)
      rotate_left
      · skip
        exact absurd rfl c_76
      refine x_iconst (pc := 83) dX12_agree_83 ?_
      refine x_rI (pc := 84) dX12_agree_84 rfl ?_
      exact ⟨rfl, rfl⟩
    | true =>
      have hFF : F = 1 := hFF
      subst hFF
      refine x_iload (pc := 22) dX12_agree_22 rfl ?_
      refine x_aloadn (pc := 24) dX12_agree_24 rfl ?_
      refine x_getR (137) (pc := 25) dX12_agree_25 fl_X12_37 k_127 (hL 127 (by decide) (by decide)) (f_127_12 hF) ?_
      refine x_iloadn (pc := 28) dX12_agree_28 rfl ?_
      refine x_iald (i) (pc := 29) dX12_agree_29 k_137 (hL 137 (by decide) (by decide)) (⟨by omega, by omega, by decide⟩) ?_
      refine x_aloadn (pc := 30) dX12_agree_30 rfl ?_
      refine x_getR (137) (pc := 31) dX12_agree_31 fl_X12_37 k_127 (hL 127 (by decide) (by decide)) (f_127_12 hF) ?_
      refine x_iloadn (pc := 34) dX12_agree_34 rfl ?_
      refine x_iald (j) (pc := 35) dX12_agree_35 k_137 (hL 137 (by decide) (by decide)) (⟨by omega, by omega, by decide⟩) ?_
      refine x_iadd (pc := 36) dX12_agree_36 ?_
      refine x_cge (tgt := 75) (pc := 37) dX12_agree_37 (by decide) (by omega) (fun c_37 => ?_) (fun c_37 => ?_)
      rotate_left
      · skip
        exact absurd c_37 (by omega)
      refine x_iloadn (pc := 75) dX12_agree_75 rfl ?_
      refine x_ieq (tgt := 83) (pc := 76) dX12_agree_76 (by decide) (by omega) (fun c_76 => ?_) (fun c_76 => ?_)
      · skip
        exact absurd c_76 (by decide)
      refine x_iconst (pc := 79) dX12_agree_79 ?_
      refine x_goto (tgt := 84) (pc := 80) dX12_agree_80 (by decide) ?_
      refine x_rI (pc := 84) dX12_agree_84 rfl ?_
      exact ⟨rfl, rfl⟩
  | succ k ih =>
    intro t z F ht hz hFF
    have b1 := zbh_lt hD hi hj (k := t) (by omega)
    have b2 := zbh_lt hD hj hi (k := t) (by omega)
    cases z with
    | false =>
      have hFF : F = 0 := hFF
      subst hFF
      refine x_iload (pc := 22) dX12_agree_22 rfl ?_
      refine x_aloadn (pc := 24) dX12_agree_24 rfl ?_
      refine x_getR (137) (pc := 25) dX12_agree_25 fl_X12_37 k_127 (hL 127 (by decide) (by decide)) (f_127_12 hF) ?_
      refine x_iloadn (pc := 28) dX12_agree_28 rfl ?_
      refine x_iald (i) (pc := 29) dX12_agree_29 k_137 (hL 137 (by decide) (by decide)) (⟨by omega, by omega, by decide⟩) ?_
      refine x_aloadn (pc := 30) dX12_agree_30 rfl ?_
      refine x_getR (137) (pc := 31) dX12_agree_31 fl_X12_37 k_127 (hL 127 (by decide) (by decide)) (f_127_12 hF) ?_
      refine x_iloadn (pc := 34) dX12_agree_34 rfl ?_
      refine x_iald (j) (pc := 35) dX12_agree_35 k_137 (hL 137 (by decide) (by decide)) (⟨by omega, by omega, by decide⟩) ?_
      refine x_iadd (pc := 36) dX12_agree_36 ?_
      refine x_cge (tgt := 75) (pc := 37) dX12_agree_37 (by decide) (by omega) (fun c_37 => ?_) (fun c_37 => ?_)
      · skip
        exact absurd c_37 (by omega)
      refine x_iloadn (pc := 40) dX12_agree_40 rfl ?_
      refine x_ieq (tgt := 67) (pc := 41) dX12_agree_41 (by decide) (by omega) (fun c_41 => ?_) (fun c_41 => ?_)
      rotate_left
      · skip
        exact absurd rfl c_41
      refine x_iconst (pc := 67) dX12_agree_67 ?_
      refine x_istoren (pc := 68) dX12_agree_68 rfl (by decide) rfl ?_
      refine x_iinc (pc := 69) dX12_agree_69 rfl (by decide) rfl ?_
      refine x_goto (tgt := 22) (pc := 72) dX12_agree_72 (by decide) ?_
      exact ih (t + 1) false _ (by omega) (by rw [zall, hz]; rfl) rfl
    | true =>
      have hFF : F = 1 := hFF
      subst hFF
      refine x_iload (pc := 22) dX12_agree_22 rfl ?_
      refine x_aloadn (pc := 24) dX12_agree_24 rfl ?_
      refine x_getR (137) (pc := 25) dX12_agree_25 fl_X12_37 k_127 (hL 127 (by decide) (by decide)) (f_127_12 hF) ?_
      refine x_iloadn (pc := 28) dX12_agree_28 rfl ?_
      refine x_iald (i) (pc := 29) dX12_agree_29 k_137 (hL 137 (by decide) (by decide)) (⟨by omega, by omega, by decide⟩) ?_
      refine x_aloadn (pc := 30) dX12_agree_30 rfl ?_
      refine x_getR (137) (pc := 31) dX12_agree_31 fl_X12_37 k_127 (hL 127 (by decide) (by decide)) (f_127_12 hF) ?_
      refine x_iloadn (pc := 34) dX12_agree_34 rfl ?_
      refine x_iald (j) (pc := 35) dX12_agree_35 k_137 (hL 137 (by decide) (by decide)) (⟨by omega, by omega, by decide⟩) ?_
      refine x_iadd (pc := 36) dX12_agree_36 ?_
      refine x_cge (tgt := 75) (pc := 37) dX12_agree_37 (by decide) (by omega) (fun c_37 => ?_) (fun c_37 => ?_)
      · skip
        exact absurd c_37 (by omega)
      refine x_iloadn (pc := 40) dX12_agree_40 rfl ?_
      refine x_ieq (tgt := 67) (pc := 41) dX12_agree_41 (by decide) (by omega) (fun c_41 => ?_) (fun c_41 => ?_)
      · skip
        exact absurd c_41 (by decide)
      refine x_aloadn (pc := 44) dX12_agree_44 rfl ?_
      refine x_iloadn (pc := 45) dX12_agree_45 rfl ?_
      refine x_iloadn (pc := 46) dX12_agree_46 rfl ?_
      refine x_iload (pc := 47) dX12_agree_47 rfl ?_
      refine x_cVI (pc := 49) dX12_agree_49 lk_X12_315 (c_mo_be (k := t) hL hF hD hi hj (by omega)) k_127 ⟨by decide, rfl⟩ (hL 127 (by decide) (by decide)) (⟨by decide, by decide⟩) (Nat.le_of_ble_eq_true rfl) rfl ?_
      rintro x G' ⟨rfl, rfl⟩
      refine x_aloadn (pc := 52) dX12_agree_52 rfl ?_
      refine x_iloadn (pc := 53) dX12_agree_53 rfl ?_
      refine x_iloadn (pc := 54) dX12_agree_54 rfl ?_
      refine x_iload (pc := 55) dX12_agree_55 rfl ?_
      refine x_cVI (pc := 57) dX12_agree_57 lk_X12_315 (c_mo_be (k := t) hL hF hD hj hi (by omega)) k_127 ⟨by decide, rfl⟩ (hL 127 (by decide) (by decide)) (⟨by decide, by decide⟩) (Nat.le_of_ble_eq_true rfl) rfl ?_
      rintro x G' ⟨rfl, rfl⟩
      refine x_cne (tgt := 67) (pc := 60) dX12_agree_60 (by decide) (by omega) (fun c_60 => ?_) (fun c_60 => ?_)
      · skip
        refine x_iconst (pc := 67) dX12_agree_67 ?_
        refine x_istoren (pc := 68) dX12_agree_68 rfl (by decide) rfl ?_
        refine x_iinc (pc := 69) dX12_agree_69 rfl (by decide) rfl ?_
        refine x_goto (tgt := 22) (pc := 72) dX12_agree_72 (by decide) ?_
        first
        | exact ih (t + 1) true _ (by omega) (by rw [zall, hz, Bool.true_and]; exact beq_iff_eq.mpr (by omega)) rfl
        | exact ih (t + 1) false _ (by omega) (by rw [zall, hz, Bool.true_and]; exact beq_eq_false_iff_ne.mpr (by omega)) rfl
      · skip
        refine x_iconst (pc := 63) dX12_agree_63 ?_
        refine x_goto (tgt := 68) (pc := 64) dX12_agree_64 (by decide) ?_
        refine x_istoren (pc := 68) dX12_agree_68 rfl (by decide) rfl ?_
        refine x_iinc (pc := 69) dX12_agree_69 rfl (by decide) rfl ?_
        refine x_goto (tgt := 22) (pc := 72) dX12_agree_72 (by decide) ?_
        first
        | exact ih (t + 1) true _ (by omega) (by rw [zall, hz, Bool.true_and]; exact beq_iff_eq.mpr (by omega)) rfl
        | exact ih (t + 1) false _ (by omega) (by rw [zall, hz, Bool.true_and]; exact beq_eq_false_iff_ne.mpr (by omega)) rfl
theorem c_mo_agree {dn : Nat → Nat} {dl : Nat → Nat → Nat} {i j : Int} {L : List Nat} {G : Nat → Nat → Int} (hL : x_SL L) (hF : x_Fin xFL G) (hD : mDk dn dl G) (hi : -2147483648 ≤ i ∧ i < 2147483648) (hj : -2147483648 ≤ j ∧ j < 2147483648) :
    CM yX12_agree mX12_agree 2 0 0 [vR 127, vI i, vI j] L G (qI L fun x G' => x = (if ¬ ((0 ≤ i ∧ i < 4) ∧ 0 ≤ j ∧ j < 4) then -2 else if zag (dn i.toNat) (dn j.toNat) (dl i.toNat) (dl j.toNat) = true then 1 else 0) ∧ G' = G) := by
  refine Ct.of_X (μ := mX12_agree) rfl rfl (by decide) (fun h => by cases h) (Nat.le_of_ble_eq_true rfl) rfl ?_
  refine x_iloadn (pc := 0) dX12_agree_0 rfl ?_
  refine x_cSI (pc := 1) dX12_agree_1 lk_X12_286 (c_mo_isWord hi) (⟨by decide, by decide⟩) (Nat.le_of_ble_eq_true rfl) rfl ?_
  rintro x G' ⟨rfl, rfl⟩
  refine x_ieq (tgt := 14) (pc := 4) dX12_agree_4 (by decide) (by split <;> omega) (fun c_4 => ?_) (fun c_4 => ?_)
  · skip
    refine x_bipush (pc := 14) dX12_agree_14 (by decide) ?_
    refine x_rI (pc := 16) dX12_agree_16 rfl ?_
    refine ⟨?_, rfl⟩
    rw [if_pos]
    first | (split at c_4 <;> omega; done) | (split at c_11 <;> omega; done)
  · skip
    refine x_iloadn (pc := 7) dX12_agree_7 rfl ?_
    refine x_cSI (pc := 8) dX12_agree_8 lk_X12_286 (c_mo_isWord hj) (⟨by decide, by decide⟩) (Nat.le_of_ble_eq_true rfl) rfl ?_
    rintro x G' ⟨rfl, rfl⟩
    refine x_ine (tgt := 17) (pc := 11) dX12_agree_11 (by decide) (by split <;> omega) (fun c_11 => ?_) (fun c_11 => ?_)
    · skip
      have g0 : 0 ≤ i ∧ i < 4 := by split at c_4 <;> omega
      have g1 : 0 ≤ j ∧ j < 4 := by split at c_11 <;> omega
      rw [if_neg (by omega)]
      obtain ⟨i, rfl⟩ : ∃ k : Nat, i = k := ⟨i.toNat, by omega⟩
      obtain ⟨j, rfl⟩ : ∃ k : Nat, j = k := ⟨j.toNat, by omega⟩
      rw [Int.toNat_natCast, Int.toNat_natCast]
      refine x_iconst (pc := 17) dX12_agree_17 ?_
      refine x_istoren (pc := 18) dX12_agree_18 rfl (by decide) rfl ?_
      refine x_iconst (pc := 19) dX12_agree_19 ?_
      refine x_istore (pc := 20) dX12_agree_20 (by decide) rfl ?_
      exact l_mo_ag (i := i) (j := j) hL hF hD (by omega) (by omega) (dn i + dn j) 0 true 1 (by omega) rfl rfl
    · skip
      refine x_bipush (pc := 14) dX12_agree_14 (by decide) ?_
      refine x_rI (pc := 16) dX12_agree_16 rfl ?_
      refine ⟨?_, rfl⟩
      rw [if_pos]
      first | (split at c_4 <;> omega; done) | (split at c_11 <;> omega; done)

