/-! the reference: turned, word -/
theorem l_mo_tuI {dn : Nat → Nat} {dl : Nat → Nat → Nat} {i j t : Nat} {Q : x_Q} {L : List Nat} {G : Nat → Nat → Int} (hL : x_SL L) (hF : x_Fin xFL G) (hD : mDk dn dl G) (hi : i < 4) (hj : j < 4) (hn : dn i = dn j) (ht : t < dn i)
    (cont : X mX12_turned 2 0 0 Q 115 [some (vR 127), some (vI i), some (vI j), some (vI t), some (vI (if ztu (dn i) (dl i) (dl j) t = true then 1 else 0)), some (vI (dn i))] [] L G 0 0) :
    ∀ (k x : Nat) (z : Bool) (F : Int), x + k = dn i → zall (fun x => ztl (dl i) (dn i) t x == dl j x) x = z → F = (if z = true then 1 else 0) → X mX12_turned 2 0 0 Q 63 [some (vR 127), some (vI i), some (vI j), some (vI t), some (vI F), some (vI x)] [] L G 0 0 := by
  obtain ⟨d1, d2, d3⟩ := hD i hi
  obtain ⟨e1, e2, e3⟩ := hD j hj
  intro k
  induction k with
  | zero =>
    intro x z F hx hz hFF
    have hx : x = dn i := by omega
    subst hx
    unfold ztu at cont
    rw [hz, ← hFF] at cont
    refine x_iload (pc := 63) dX12_turned_63 rfl ?_
    refine x_aloadn (pc := 65) dX12_turned_65 rfl ?_
    refine x_getR (137) (pc := 66) dX12_turned_66 fl_X12_37 k_127 (hL 127 (by decide) (by decide)) (f_127_12 hF) ?_
    refine x_iloadn (pc := 69) dX12_turned_69 rfl ?_
    refine x_iald (i) (pc := 70) dX12_turned_70 k_137 (hL 137 (by decide) (by decide)) (⟨by omega, by omega, by decide⟩) ?_
    refine x_cge (tgt := 115) (pc := 71) dX12_turned_71 (by decide) (by omega) (fun c_71 => ?_) (fun c_71 => ?_)
    rotate_left
    · skip
      exact absurd c_71 (by omega)
    exact cont
  | succ k ih =>
    intro x z F hx hz hFF
    have b1 := ztl_lt (f := dl i) (n := dn i) (k := t) (i := x) (by omega) (fun j hj => (d3 j hj).2)
    obtain ⟨b2, b3⟩ := e3 x (by omega)
    cases z with
    | false =>
      have hFF : F = 0 := hFF
      subst hFF
      refine x_iload (pc := 63) dX12_turned_63 rfl ?_
      refine x_aloadn (pc := 65) dX12_turned_65 rfl ?_
      refine x_getR (137) (pc := 66) dX12_turned_66 fl_X12_37 k_127 (hL 127 (by decide) (by decide)) (f_127_12 hF) ?_
      refine x_iloadn (pc := 69) dX12_turned_69 rfl ?_
      refine x_iald (i) (pc := 70) dX12_turned_70 k_137 (hL 137 (by decide) (by decide)) (⟨by omega, by omega, by decide⟩) ?_
      refine x_cge (tgt := 115) (pc := 71) dX12_turned_71 (by decide) (by omega) (fun c_71 => ?_) (fun c_71 => ?_)
      · skip
        exact absurd c_71 (by omega)
      refine x_iload (pc := 74) dX12_turned_74 rfl ?_
      refine x_ieq (tgt := 106) (pc := 76) dX12_turned_76 (by decide) (by omega) (fun c_76 => ?_) (fun c_76 => ?_)
      rotate_left
      · skip
        exact absurd rfl c_76
      refine x_iconst (pc := 106) dX12_turned_106 ?_
      refine x_istore (pc := 107) dX12_turned_107 (by decide) rfl ?_
      refine x_iinc (pc := 109) dX12_turned_109 rfl (by decide) rfl ?_
      refine x_goto (tgt := 63) (pc := 112) dX12_turned_112 (by decide) ?_
      exact ih (x + 1) false _ (by omega) (by rw [zall, hz]; rfl) rfl
    | true =>
      have hFF : F = 1 := hFF
      subst hFF
      refine x_iload (pc := 63) dX12_turned_63 rfl ?_
      refine x_aloadn (pc := 65) dX12_turned_65 rfl ?_
      refine x_getR (137) (pc := 66) dX12_turned_66 fl_X12_37 k_127 (hL 127 (by decide) (by decide)) (f_127_12 hF) ?_
      refine x_iloadn (pc := 69) dX12_turned_69 rfl ?_
      refine x_iald (i) (pc := 70) dX12_turned_70 k_137 (hL 137 (by decide) (by decide)) (⟨by omega, by omega, by decide⟩) ?_
      refine x_cge (tgt := 115) (pc := 71) dX12_turned_71 (by decide) (by omega) (fun c_71 => ?_) (fun c_71 => ?_)
      · skip
        exact absurd c_71 (by omega)
      refine x_iload (pc := 74) dX12_turned_74 rfl ?_
      refine x_ieq (tgt := 106) (pc := 76) dX12_turned_76 (by decide) (by omega) (fun c_76 => ?_) (fun c_76 => ?_)
      · skip
        exact absurd c_76 (by decide)
      refine x_aloadn (pc := 79) dX12_turned_79 rfl ?_
      refine x_iloadn (pc := 80) dX12_turned_80 rfl ?_
      refine x_iloadn (pc := 81) dX12_turned_81 rfl ?_
      refine x_iload (pc := 82) dX12_turned_82 rfl ?_
      refine x_cVI (pc := 84) dX12_turned_84 lk_X12_294 (c_mo_tl hL hF hD hi ht (by omega)) k_127 ⟨by decide, rfl⟩ (hL 127 (by decide) (by decide)) (⟨by decide, by decide⟩) (Nat.le_of_ble_eq_true rfl) rfl ?_
      rintro x G' ⟨rfl, rfl⟩
      refine x_aloadn (pc := 87) dX12_turned_87 rfl ?_
      refine x_getR (136) (pc := 88) dX12_turned_88 fl_X12_34 k_127 (hL 127 (by decide) (by decide)) (f_127_11 hF) ?_
      refine x_bipush (pc := 91) dX12_turned_91 (by decide) ?_
      refine x_iloadn (pc := 93) dX12_turned_93 rfl ?_
      refine x_imul (pc := 94) dX12_turned_94 ?_
      refine x_iload (pc := 95) dX12_turned_95 rfl ?_
      refine x_iadd (pc := 97) dX12_turned_97 ?_
      refine x_iald (30 * j + x) (pc := 98) dX12_turned_98 k_136 (hL 136 (by decide) (by decide)) (⟨by omega, by omega, by decide⟩) ?_
      rw [b2]
      refine x_cne (tgt := 106) (pc := 99) dX12_turned_99 (by decide) (by omega) (fun c_99 => ?_) (fun c_99 => ?_)
      · skip
        refine x_iconst (pc := 106) dX12_turned_106 ?_
        refine x_istore (pc := 107) dX12_turned_107 (by decide) rfl ?_
        refine x_iinc (pc := 109) dX12_turned_109 rfl (by decide) rfl ?_
        refine x_goto (tgt := 63) (pc := 112) dX12_turned_112 (by decide) ?_
        first
        | exact ih (x + 1) true _ (by omega) (by rw [zall, hz, Bool.true_and]; exact beq_iff_eq.mpr (by omega)) rfl
        | exact ih (x + 1) false _ (by omega) (by rw [zall, hz, Bool.true_and]; exact beq_eq_false_iff_ne.mpr (by omega)) rfl
      · skip
        refine x_iconst (pc := 102) dX12_turned_102 ?_
        refine x_goto (tgt := 107) (pc := 103) dX12_turned_103 (by decide) ?_
        refine x_istore (pc := 107) dX12_turned_107 (by decide) rfl ?_
        refine x_iinc (pc := 109) dX12_turned_109 rfl (by decide) rfl ?_
        refine x_goto (tgt := 63) (pc := 112) dX12_turned_112 (by decide) ?_
        first
        | exact ih (x + 1) true _ (by omega) (by rw [zall, hz, Bool.true_and]; exact beq_iff_eq.mpr (by omega)) rfl
        | exact ih (x + 1) false _ (by omega) (by rw [zall, hz, Bool.true_and]; exact beq_eq_false_iff_ne.mpr (by omega)) rfl
theorem l_mo_ti {dn : Nat → Nat} {dl : Nat → Nat → Nat} {i j : Nat} {L : List Nat} {G : Nat → Nat → Int} (hL : x_SL L) (hF : x_Fin xFL G) (hD : mDk dn dl G) (hi : i < 4) (hj : j < 4) (hn : dn i = dn j) :
    ∀ (k t z : Nat) (o4 o5 : Option (Nat × Int)), t + k = dn i → zfnd (ztu (dn i) (dl i) (dl j)) k t = z → X mX12_turned 2 0 0 (qI L fun x G' => x = (if z < dn i then (z : Int) else -1) ∧ G' = G) 47 [some (vR 127), some (vI i), some (vI j), some (vI t), o4, o5] [] L G 0 0 := by
  obtain ⟨d1, d2, d3⟩ := hD i hi
  intro k
  induction k with
  | zero =>
    intro t z o4 o5 ht hz
    rw [zfnd] at hz
    refine x_iloadn (pc := 47) dX12_turned_47 rfl ?_
    refine x_aloadn (pc := 48) dX12_turned_48 rfl ?_
    refine x_getR (137) (pc := 49) dX12_turned_49 fl_X12_37 k_127 (hL 127 (by decide) (by decide)) (f_127_12 hF) ?_
    refine x_iloadn (pc := 52) dX12_turned_52 rfl ?_
    refine x_iald (i) (pc := 53) dX12_turned_53 k_137 (hL 137 (by decide) (by decide)) (⟨by omega, by omega, by decide⟩) ?_
    refine x_cge (tgt := 128) (pc := 54) dX12_turned_54 (by decide) (by omega) (fun c_54 => ?_) (fun c_54 => ?_)
    rotate_left
    · skip
      exact absurd c_54 (by omega)
    refine x_iconst (pc := 128) dX12_turned_128 ?_
    refine x_rI (pc := 129) dX12_turned_129 rfl ?_
    exact ⟨by rw [if_neg (by omega)], rfl⟩
  | succ k ih =>
    intro t z o4 o5 ht hz
    rw [zfnd] at hz
    refine x_iloadn (pc := 47) dX12_turned_47 rfl ?_
    refine x_aloadn (pc := 48) dX12_turned_48 rfl ?_
    refine x_getR (137) (pc := 49) dX12_turned_49 fl_X12_37 k_127 (hL 127 (by decide) (by decide)) (f_127_12 hF) ?_
    refine x_iloadn (pc := 52) dX12_turned_52 rfl ?_
    refine x_iald (i) (pc := 53) dX12_turned_53 k_137 (hL 137 (by decide) (by decide)) (⟨by omega, by omega, by decide⟩) ?_
    refine x_cge (tgt := 128) (pc := 54) dX12_turned_54 (by decide) (by omega) (fun c_54 => ?_) (fun c_54 => ?_)
    · skip
      exact absurd c_54 (by omega)
    refine x_iconst (pc := 57) dX12_turned_57 ?_
    refine x_istore (pc := 58) dX12_turned_58 (by decide) rfl ?_
    refine x_iconst (pc := 60) dX12_turned_60 ?_
    refine x_istore (pc := 61) dX12_turned_61 (by decide) rfl ?_
    refine l_mo_tuI hL hF hD hi hj hn (by omega) ?_ (dn i) 0 true 1 (by omega) rfl rfl
    by_cases c : ztu (dn i) (dl i) (dl j) t = true
    · rw [if_pos c]
      rw [if_pos c] at hz
      refine x_iload (pc := 115) dX12_turned_115 rfl ?_
      refine x_ieq (tgt := 122) (pc := 117) dX12_turned_117 (by decide) (by decide) (fun q => absurd q (by decide)) (fun _ => ?_)
      refine x_iloadn (pc := 120) dX12_turned_120 rfl ?_
      refine x_iret (pc := 121) dX12_turned_121 rfl ⟨rfl, _, rfl, ?_, rfl⟩
      rw [if_pos (by omega)]; omega
    · rw [if_neg c]
      rw [if_neg c] at hz
      refine x_iload (pc := 115) dX12_turned_115 rfl ?_
      refine x_ieq (tgt := 122) (pc := 117) dX12_turned_117 (by decide) (by decide) (fun _ => ?_) (fun q => absurd rfl q)
      refine x_iinc (pc := 122) dX12_turned_122 rfl (by decide) rfl ?_
      refine x_goto (tgt := 47) (pc := 125) dX12_turned_125 (by decide) ?_
      exact ih (t + 1) z _ _ (by omega) hz
theorem c_mo_turned {dn : Nat → Nat} {dl : Nat → Nat → Nat} {i j : Int} {L : List Nat} {G : Nat → Nat → Int} (hL : x_SL L) (hF : x_Fin xFL G) (hD : mDk dn dl G) (hi : -2147483648 ≤ i ∧ i < 2147483648) (hj : -2147483648 ≤ j ∧ j < 2147483648) :
    CM yX12_turned mX12_turned 2 0 0 [vR 127, vI i, vI j] L G (qI L fun x G' => x = (if ¬ ((0 ≤ i ∧ i < 4) ∧ 0 ≤ j ∧ j < 4) then -2 else ztd (dn i.toNat) (dn j.toNat) (dl i.toNat) (dl j.toNat)) ∧ G' = G) := by
  refine Ct.of_X (μ := mX12_turned) rfl rfl (by decide) (fun h => by cases h) (Nat.le_of_ble_eq_true rfl) rfl ?_
  refine x_iloadn (pc := 0) dX12_turned_0 rfl ?_
  refine x_cSI (pc := 1) dX12_turned_1 lk_X12_286 (c_mo_isWord hi) (⟨by decide, by decide⟩) (Nat.le_of_ble_eq_true rfl) rfl ?_
  rintro x G' ⟨rfl, rfl⟩
  refine x_ieq (tgt := 14) (pc := 4) dX12_turned_4 (by decide) (by split <;> omega) (fun c_4 => ?_) (fun c_4 => ?_)
  · skip
    refine x_bipush (pc := 14) dX12_turned_14 (by decide) ?_
    refine x_rI (pc := 16) dX12_turned_16 rfl ?_
    refine ⟨?_, rfl⟩
    rw [if_pos]
    first | (split at c_4 <;> omega; done) | (split at c_11 <;> omega; done)
  · skip
    refine x_iloadn (pc := 7) dX12_turned_7 rfl ?_
    refine x_cSI (pc := 8) dX12_turned_8 lk_X12_286 (c_mo_isWord hj) (⟨by decide, by decide⟩) (Nat.le_of_ble_eq_true rfl) rfl ?_
    rintro x G' ⟨rfl, rfl⟩
    refine x_ine (tgt := 17) (pc := 11) dX12_turned_11 (by decide) (by split <;> omega) (fun c_11 => ?_) (fun c_11 => ?_)
    · skip
      have g0 : 0 ≤ i ∧ i < 4 := by split at c_4 <;> omega
      have g1 : 0 ≤ j ∧ j < 4 := by split at c_11 <;> omega
      rw [if_neg (by omega)]
      obtain ⟨i, rfl⟩ : ∃ k : Nat, i = k := ⟨i.toNat, by omega⟩
      obtain ⟨j, rfl⟩ : ∃ k : Nat, j = k := ⟨j.toNat, by omega⟩
      rw [Int.toNat_natCast, Int.toNat_natCast]
      obtain ⟨d1, d2, d3⟩ := hD i (by omega)
      obtain ⟨e1, e2, e3⟩ := hD j (by omega)
      refine x_aloadn (pc := 17) dX12_turned_17 rfl ?_
      refine x_getR (137) (pc := 18) dX12_turned_18 fl_X12_37 k_127 (hL 127 (by decide) (by decide)) (f_127_12 hF) ?_
      refine x_iloadn (pc := 21) dX12_turned_21 rfl ?_
      refine x_iald (i) (pc := 22) dX12_turned_22 k_137 (hL 137 (by decide) (by decide)) (⟨by omega, by omega, by decide⟩) ?_
      refine x_aloadn (pc := 23) dX12_turned_23 rfl ?_
      refine x_getR (137) (pc := 24) dX12_turned_24 fl_X12_37 k_127 (hL 127 (by decide) (by decide)) (f_127_12 hF) ?_
      refine x_iloadn (pc := 27) dX12_turned_27 rfl ?_
      refine x_iald (j) (pc := 28) dX12_turned_28 k_137 (hL 137 (by decide) (by decide)) (⟨by omega, by omega, by decide⟩) ?_
      refine x_ceq (tgt := 34) (pc := 29) dX12_turned_29 (by decide) (by omega) (fun c_29 => ?_) (fun c_29 => ?_)
      · skip
        refine x_aloadn (pc := 34) dX12_turned_34 rfl ?_
        refine x_getR (137) (pc := 35) dX12_turned_35 fl_X12_37 k_127 (hL 127 (by decide) (by decide)) (f_127_12 hF) ?_
        refine x_iloadn (pc := 38) dX12_turned_38 rfl ?_
        refine x_iald (i) (pc := 39) dX12_turned_39 k_137 (hL 137 (by decide) (by decide)) (⟨by omega, by omega, by decide⟩) ?_
        refine x_ine (tgt := 45) (pc := 40) dX12_turned_40 (by decide) (by omega) (fun c_40 => ?_) (fun c_40 => ?_)
        · skip
          refine x_iconst (pc := 45) dX12_turned_45 ?_
          refine x_istoren (pc := 46) dX12_turned_46 rfl (by decide) rfl ?_
          have e : dn i = dn j := by omega
          have hz : ztd (dn i) (dn j) (dl i) (dl j) = if zfnd (ztu (dn i) (dl i) (dl j)) (dn i) 0 < dn i then (zfnd (ztu (dn i) (dl i) (dl j)) (dn i) 0 : Int) else -1 := by unfold ztd; rw [if_neg (by omega), if_neg (by omega)]
          rw [hz]
          exact l_mo_ti (i := i) (j := j) hL hF hD (by omega) (by omega) e (dn i) 0 _ _ _ (by omega) rfl
        · skip
          refine x_iconst (pc := 43) dX12_turned_43 ?_
          refine x_rI (pc := 44) dX12_turned_44 rfl ?_
          exact ⟨by unfold ztd; rw [if_neg (by omega), if_pos (by omega)], rfl⟩
      · skip
        refine x_iconst (pc := 32) dX12_turned_32 ?_
        refine x_rI (pc := 33) dX12_turned_33 rfl ?_
        exact ⟨by unfold ztd; rw [if_pos (by omega)], rfl⟩
    · skip
      refine x_bipush (pc := 14) dX12_turned_14 (by decide) ?_
      refine x_rI (pc := 16) dX12_turned_16 rfl ?_
      refine ⟨?_, rfl⟩
      rw [if_pos]
      first | (split at c_4 <;> omega; done) | (split at c_11 <;> omega; done)
abbrev pWord (L : List Nat) (G : Nat → Nat → Int) (dn : Nat → Nat) (dl : Nat → Nat → Nat) (i w n : Int) : x_Q := qI L fun x G' => (¬ (0 ≤ i ∧ i < 4) ∧ x = -2 ∧ G' = G) ∨ ((0 ≤ i ∧ i < 4) ∧ ¬ (0 ≤ n ∧ n ≤ 30 ∧ zgood w n.toNat) ∧ x = -3 ∧ G' = G) ∨ ((0 ≤ i ∧ i < 4) ∧ (0 ≤ n ∧ n ≤ 30 ∧ zgood w n.toNat) ∧ x = 1 ∧ mDk (zup dn i.toNat n.toNat) (zup dl i.toNat (zln w)) G' ∧ FM [136, 137] [] G G' ∧ x_Fin xFL G')
theorem l_mo_wdW {dn : Nat → Nat} {dl : Nat → Nat → Nat} {i n : Nat} {w : Int} {L : List Nat} {G0 : Nat → Nat → Int} (hL : x_SL L) (hD : mDk dn dl G0) (hw : -9223372036854775808 ≤ w ∧ w < 9223372036854775808) (hi : i < 4) (hn : n ≤ 30) (hg : zgood w n) :
    ∀ (k t : Nat) (G : Nat → Nat → Int), t + k = n → (∀ j, j < t → G 136 (30 * i + j) = zlet w j) → (∀ a, a / 30 ≠ i → G 136 a = G0 136 a) → FM [136, 137] [] G0 G → G 137 = G0 137 → x_Fin xFL G →
    X mX12_word 2 0 0 (pWord L G0 dn dl i w n) 78 [some (vR 127), some (vI i), some (vL w), none, some (vI n), some (vI 1), some (vI t)] [] L G 0 0 := by
  intro k
  induction k with
  | zero =>
    intro t G ht h1 h2 hR hm hF
    have ht : t = n := by omega
    subst ht
    refine x_iload (pc := 78) dX12_word_78 rfl ?_
    refine x_iload (pc := 80) dX12_word_80 rfl ?_
    refine x_cge (tgt := 114) (pc := 82) dX12_word_82 (by decide) (by omega) (fun c_82 => ?_) (fun c_82 => ?_)
    rotate_left
    · skip
      exact absurd c_82 (by omega)
    refine x_aloadn (pc := 114) dX12_word_114 rfl ?_
    refine x_getR (137) (pc := 115) dX12_word_115 fl_X12_37 k_127 (hL 127 (by decide) (by decide)) (f_127_12 hF) ?_
    refine x_iloadn (pc := 118) dX12_word_118 rfl ?_
    refine x_iload (pc := 119) dX12_word_119 rfl ?_
    refine x_iastF (i) (pc := 121) dX12_word_121 k_137 (hL 137 (by decide) (by decide)) (⟨by omega, by omega, by decide⟩) hF (fun hF => ?_)
    refine x_iconst (pc := 122) dX12_word_122 ?_
    refine x_rI (pc := 123) dX12_word_123 rfl ?_
    refine Or.inr (Or.inr ⟨by omega, ⟨by omega, by omega, by rw [Int.toNat_natCast]; exact hg⟩, rfl, fun q hq => ?_, hR.upA (by decide), hF⟩)
    rw [Int.toNat_natCast, Int.toNat_natCast]
    obtain ⟨b1, b2, b3⟩ := hD q hq
    by_cases c : q = i
    · subst c
      rw [zup_s, zup_s]
      refine ⟨x_up_s, hn, fun j hj => ?_⟩
      have := hg j hj
      have := zlet_bd w j
      exact ⟨by rw [x_up_ne (by decide), h1 j hj]; exact zln_eq w j, by unfold zln; omega⟩
    · rw [zup_n c, zup_n c]
      refine ⟨by rw [x_up_k c, hm]; exact b1, b2, fun j hj => ?_⟩
      rw [x_up_ne (by decide), h2 _ (by omega)]; exact b3 j hj
  | succ k ih =>
    intro t G ht h1 h2 hR hm hF
    have hzl : (w / 2 ^ (2 * t)) % 4 = zlet w t := rfl
    have hzb := zlet_bd w t
    refine x_iload (pc := 78) dX12_word_78 rfl ?_
    refine x_iload (pc := 80) dX12_word_80 rfl ?_
    refine x_cge (tgt := 114) (pc := 82) dX12_word_82 (by decide) (by omega) (fun c_82 => ?_) (fun c_82 => ?_)
    · skip
      exact absurd c_82 (by omega)
    refine x_aloadn (pc := 85) dX12_word_85 rfl ?_
    refine x_getR (136) (pc := 86) dX12_word_86 fl_X12_34 k_127 (hL 127 (by decide) (by decide)) (f_127_11 hF) ?_
    refine x_bipush (pc := 89) dX12_word_89 (by decide) ?_
    refine x_iloadn (pc := 91) dX12_word_91 rfl ?_
    refine x_imul (pc := 92) dX12_word_92 ?_
    refine x_iload (pc := 93) dX12_word_93 rfl ?_
    refine x_iadd (pc := 95) dX12_word_95 ?_
    refine x_lloadn (pc := 96) dX12_word_96 rfl ?_
    refine x_iconst (pc := 97) dX12_word_97 ?_
    refine x_iload (pc := 98) dX12_word_98 rfl ?_
    refine x_imul (pc := 100) dX12_word_100 ?_
    refine x_lshr (pc := 101) dX12_word_101 (2 * t) (by omega) (by omega) (by omega) ?_
    refine x_ldc2 (pc := 102) dX12_word_102 co_X12_129 ?_
    refine x_landm (pc := 105) dX12_word_105 2 4 (by decide) (by decide) (by decide) ?_
    rw [hzl]
    refine x_l2i (pc := 106) dX12_word_106 ?_
    refine x_iastF (30 * i + t) (pc := 107) dX12_word_107 k_136 (hL 136 (by decide) (by decide)) (⟨by omega, by omega, by decide⟩) hF (fun hF => ?_)
    refine x_iinc (pc := 108) dX12_word_108 rfl (by decide) rfl ?_
    refine x_goto (tgt := 78) (pc := 111) dX12_word_111 (by decide) ?_
    rw [show ((t : Int) + 1) = ((t + 1 : Nat) : Int) from rfl]
    refine ih (t + 1) _ (by omega) (fun j hj => ?_) (fun a ha => ?_) (hR.upA (by decide)) (by rw [x_up_ne (by decide)]; exact hm) hF
    · by_cases c : j = t
      · subst c; exact x_up_s
      · rw [x_up_k (by omega)]; exact h1 j (by omega)
    · rw [x_up_k (by omega)]; exact h2 a ha
theorem l_mo_wd67 {dn : Nat → Nat} {dl : Nat → Nat → Nat} {i n w F : Int} {o : Option (Nat × Int)} {L : List Nat} {G : Nat → Nat → Int} (hL : x_SL L) (hF : x_Fin xFL G) (hD : mDk dn dl G) (hw : -9223372036854775808 ≤ w ∧ w < 9223372036854775808) (hi : 0 ≤ i ∧ i < 4) (h : (F = 1 ∧ (0 ≤ n ∧ n ≤ 30 ∧ zgood w n.toNat)) ∨ (F = 0 ∧ ¬ (0 ≤ n ∧ n ≤ 30 ∧ zgood w n.toNat))) :
    X mX12_word 2 0 0 (pWord L G dn dl i w n) 67 [some (vR 127), some (vI i), some (vL w), none, some (vI n), some (vI F), o] [] L G 0 0 := by
  rcases h with ⟨rfl, h⟩ | ⟨rfl, h⟩
  · obtain ⟨i, rfl⟩ : ∃ k : Nat, i = k := ⟨i.toNat, by omega⟩
    obtain ⟨n, rfl⟩ : ∃ k : Nat, n = k := ⟨n.toNat, by omega⟩
    rw [Int.toNat_natCast] at h
    refine x_iload (pc := 67) dX12_word_67 rfl ?_
    refine x_ine (tgt := 75) (pc := 69) dX12_word_69 (by decide) (by omega) (fun c_69 => ?_) (fun c_69 => ?_)
    rotate_left
    · skip
      exact absurd c_69 (by decide)
    refine x_iconst (pc := 75) dX12_word_75 ?_
    refine x_istore (pc := 76) dX12_word_76 (by decide) rfl ?_
    exact l_mo_wdW (i := i) (n := n) hL hD hw (by omega) (by omega) h.2.2 n 0 _ (by omega) (fun j hj => absurd hj (Nat.not_lt_zero j)) (fun a _ => rfl) FM.rf rfl hF
  · skip
    refine x_iload (pc := 67) dX12_word_67 rfl ?_
    refine x_ine (tgt := 75) (pc := 69) dX12_word_69 (by decide) (by omega) (fun c_69 => ?_) (fun c_69 => ?_)
    · skip
      exact absurd rfl c_69
    refine x_bipush (pc := 72) dX12_word_72 (by decide) ?_
    refine x_rI (pc := 74) dX12_word_74 rfl ?_
    exact Or.inr (Or.inl ⟨hi, h, rfl, rfl⟩)
theorem l_mo_word {dn : Nat → Nat} {dl : Nat → Nat → Nat} {i w : Int} {n : Nat} {L : List Nat} {G : Nat → Nat → Int} (hL : x_SL L) (hF : x_Fin xFL G) (hD : mDk dn dl G) (hw : -9223372036854775808 ≤ w ∧ w < 9223372036854775808) (hi : 0 ≤ i ∧ i < 4) (hn : n ≤ 30) :
    ∀ (k t : Nat), t + k = n → zgood w t → X mX12_word 2 0 0 (pWord L G dn dl i w n) 25 [some (vR 127), some (vI i), some (vL w), none, some (vI n), some (vI 1), some (vI t)] [] L G 0 0 := by
  intro k
  induction k with
  | zero =>
    intro t ht hg
    have ht : t = n := by omega
    subst ht
    refine x_iload (pc := 25) dX12_word_25 rfl ?_
    refine x_ieq (tgt := 67) (pc := 27) dX12_word_27 (by decide) (by omega) (fun c_27 => ?_) (fun c_27 => ?_)
    · skip
      exact absurd c_27 (by decide)
    refine x_iload (pc := 30) dX12_word_30 rfl ?_
    refine x_iload (pc := 32) dX12_word_32 rfl ?_
    refine x_cge (tgt := 67) (pc := 34) dX12_word_34 (by decide) (by omega) (fun c_34 => ?_) (fun c_34 => ?_)
    rotate_left
    · skip
      exact absurd c_34 (by omega)
    exact l_mo_wd67 hL hF hD hw hi (Or.inl ⟨rfl, by omega, by omega, by rw [Int.toNat_natCast]; exact hg⟩)
  | succ k ih =>
    intro t ht hg
    have hzl : (w / 2 ^ (2 * t)) % 4 = zlet w t := rfl
    have hzb := zlet_bd w t
    by_cases c : zlet w t < 3
    · skip
      refine x_iload (pc := 25) dX12_word_25 rfl ?_
      refine x_ieq (tgt := 67) (pc := 27) dX12_word_27 (by decide) (by omega) (fun c_27 => ?_) (fun c_27 => ?_)
      · skip
        exact absurd c_27 (by decide)
      refine x_iload (pc := 30) dX12_word_30 rfl ?_
      refine x_iload (pc := 32) dX12_word_32 rfl ?_
      refine x_cge (tgt := 67) (pc := 34) dX12_word_34 (by decide) (by omega) (fun c_34 => ?_) (fun c_34 => ?_)
      · skip
        exact absurd c_34 (by omega)
      refine x_lloadn (pc := 37) dX12_word_37 rfl ?_
      refine x_iconst (pc := 38) dX12_word_38 ?_
      refine x_iload (pc := 39) dX12_word_39 rfl ?_
      refine x_imul (pc := 41) dX12_word_41 ?_
      refine x_lshr (pc := 42) dX12_word_42 (2 * t) (by omega) (by omega) (by omega) ?_
      refine x_ldc2 (pc := 43) dX12_word_43 co_X12_129 ?_
      refine x_landm (pc := 46) dX12_word_46 2 4 (by decide) (by decide) (by decide) ?_
      rw [hzl]
      refine x_ldc2 (pc := 47) dX12_word_47 co_X12_129 ?_
      refine x_lcmp (pc := 50) dX12_word_50 (by omega) ?_
      refine x_ige (tgt := 58) (pc := 51) dX12_word_51 (by decide) (zl_rg) (fun c_51 => ?_) (fun c_51 => ?_)
      · skip
        have c_51 := zl_ge c_51
        exact absurd c_51 (by omega)
      have c_51 := zl_l c_51
      refine x_iconst (pc := 54) dX12_word_54 ?_
      refine x_goto (tgt := 59) (pc := 55) dX12_word_55 (by decide) ?_
      refine x_istore (pc := 59) dX12_word_59 (by decide) rfl ?_
      refine x_iinc (pc := 61) dX12_word_61 rfl (by decide) rfl ?_
      refine x_goto (tgt := 25) (pc := 64) dX12_word_64 (by decide) ?_
      exact ih (t + 1) (by omega) (zgood_s hg c)
    · skip
      refine x_iload (pc := 25) dX12_word_25 rfl ?_
      refine x_ieq (tgt := 67) (pc := 27) dX12_word_27 (by decide) (by omega) (fun c_27 => ?_) (fun c_27 => ?_)
      · skip
        exact absurd c_27 (by decide)
      refine x_iload (pc := 30) dX12_word_30 rfl ?_
      refine x_iload (pc := 32) dX12_word_32 rfl ?_
      refine x_cge (tgt := 67) (pc := 34) dX12_word_34 (by decide) (by omega) (fun c_34 => ?_) (fun c_34 => ?_)
      · skip
        exact absurd c_34 (by omega)
      refine x_lloadn (pc := 37) dX12_word_37 rfl ?_
      refine x_iconst (pc := 38) dX12_word_38 ?_
      refine x_iload (pc := 39) dX12_word_39 rfl ?_
      refine x_imul (pc := 41) dX12_word_41 ?_
      refine x_lshr (pc := 42) dX12_word_42 (2 * t) (by omega) (by omega) (by omega) ?_
      refine x_ldc2 (pc := 43) dX12_word_43 co_X12_129 ?_
      refine x_landm (pc := 46) dX12_word_46 2 4 (by decide) (by decide) (by decide) ?_
      rw [hzl]
      refine x_ldc2 (pc := 47) dX12_word_47 co_X12_129 ?_
      refine x_lcmp (pc := 50) dX12_word_50 (by omega) ?_
      refine x_ige (tgt := 58) (pc := 51) dX12_word_51 (by decide) (zl_rg) (fun c_51 => ?_) (fun c_51 => ?_)
      rotate_left
      · skip
        have c_51 := zl_l c_51
        exact absurd c_51 (by omega)
      have c_51 := zl_ge c_51
      refine x_iconst (pc := 58) dX12_word_58 ?_
      refine x_istore (pc := 59) dX12_word_59 (by decide) rfl ?_
      refine x_iinc (pc := 61) dX12_word_61 rfl (by decide) rfl ?_
      refine x_goto (tgt := 25) (pc := 64) dX12_word_64 (by decide) ?_
      refine x_iload (pc := 25) dX12_word_25 rfl ?_; refine x_ieq (tgt := 67) (pc := 27) dX12_word_27 (by decide) (by decide) (fun _ => ?_) (fun q => absurd rfl q); exact l_mo_wd67 hL hF hD hw hi (Or.inr ⟨rfl, fun q => by have := q.2.2 t (by omega); omega⟩)
theorem c_mo_word {dn : Nat → Nat} {dl : Nat → Nat → Nat} {i w n : Int} {L : List Nat} {G : Nat → Nat → Int} (hL : x_SL L) (hF : x_Fin xFL G) (hD : mDk dn dl G) (hi : -2147483648 ≤ i ∧ i < 2147483648) (hw : -9223372036854775808 ≤ w ∧ w < 9223372036854775808) (hn : -2147483648 ≤ n ∧ n < 2147483648) :
    CM yX12_word mX12_word 2 0 0 [vR 127, vI i, vL w, vI n] L G (pWord L G dn dl i w n) := by
  refine Ct.of_X (μ := mX12_word) rfl rfl (by decide) (fun h => by cases h) (Nat.le_of_ble_eq_true rfl) rfl ?_
  refine x_iloadn (pc := 0) dX12_word_0 rfl ?_
  refine x_cSI (pc := 1) dX12_word_1 lk_X12_286 (c_mo_isWord hi) (⟨by decide, by decide⟩) (Nat.le_of_ble_eq_true rfl) rfl ?_
  rintro x G' ⟨rfl, rfl⟩
  refine x_ine (tgt := 10) (pc := 4) dX12_word_4 (by decide) (by split <;> omega) (fun c_4 => ?_) (fun c_4 => ?_)
  · skip
    refine x_iload (pc := 10) dX12_word_10 rfl ?_
    refine x_i2l (pc := 12) dX12_word_12 (by omega) ?_
    refine x_lconst (x := 0) (pc := 13) dX12_word_13 (by decide) ?_
    refine x_ldc2 (pc := 14) dX12_word_14 co_X12_289 ?_
    refine x_cSI (pc := 17) dX12_word_17 lk_X12_131 (c_mo_in (by omega)) (⟨by decide, by decide⟩) (Nat.le_of_ble_eq_true rfl) rfl ?_
    rintro x G' ⟨rfl, rfl⟩
    refine x_istore (pc := 20) dX12_word_20 (by decide) rfl ?_
    refine x_iconst (pc := 22) dX12_word_22 ?_
    refine x_istore (pc := 23) dX12_word_23 (by decide) rfl ?_
    have g0 : 0 ≤ i ∧ i < 4 := by split at c_4 <;> omega
    by_cases g1 : 0 ≤ n ∧ n ≤ 30
    · rw [if_pos g1]
      obtain ⟨m, rfl⟩ : ∃ m : Nat, n = m := ⟨n.toNat, by omega⟩
      exact l_mo_word hL hF hD hw g0 (by omega) m 0 (by omega) (fun j hj => absurd hj (Nat.not_lt_zero j))
    · rw [if_neg g1]
      refine x_iload (pc := 25) dX12_word_25 rfl ?_; refine x_ieq (tgt := 67) (pc := 27) dX12_word_27 (by decide) (by decide) (fun _ => ?_) (fun q => absurd rfl q); exact l_mo_wd67 hL hF hD hw g0 (Or.inr ⟨rfl, fun q => g1 ⟨q.1, q.2.1⟩⟩)
  · skip
    refine x_bipush (pc := 7) dX12_word_7 (by decide) ?_
    refine x_rI (pc := 9) dX12_word_9 rfl ?_
    exact Or.inl ⟨by split at c_4 <;> omega, rfl, rfl⟩

