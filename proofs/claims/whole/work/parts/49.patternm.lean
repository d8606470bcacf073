/-! the reference's patterns -/
def mPt (pn : Nat → Nat) (pl : Nat → Nat → Nat) (G : Nat → Nat → Int) : Prop := ∀ i, i < 4 → G 139 i = pn i ∧ pn i ≤ 12 ∧ ∀ j, j < pn i → G 138 (12 * i + j) = pl i j ∧ zV (pl i j)
theorem c_mo_isPattern {a : Int} {L : List Nat} {G : Nat → Nat → Int} (ha : -2147483648 ≤ a ∧ a < 2147483648) :
    CM yX12_isPattern mX12_isPattern 1 0 0 [vI a] L G (qI L fun x G' => x = (if 0 ≤ a ∧ a < 4 then 1 else 0) ∧ G' = G) := by
  refine Ct.of_X (μ := mX12_isPattern) rfl rfl (by decide) (fun h => by cases h) (Nat.le_of_ble_eq_true rfl) rfl ?_
  refine x_iloadn (pc := 0) dX12_isPattern_0 rfl ?_
  refine x_i2l (pc := 1) dX12_isPattern_1 (by omega) ?_
  refine x_lconst (x := 0) (pc := 2) dX12_isPattern_2 (by decide) ?_
  refine x_ldc2 (pc := 3) dX12_isPattern_3 co_X12_129 ?_
  refine x_cSI (pc := 6) dX12_isPattern_6 lk_X12_131 (c_mo_in (by omega)) (⟨by decide, by decide⟩) (Nat.le_of_ble_eq_true rfl) rfl ?_
  rintro x G' ⟨rfl, rfl⟩
  refine x_rZ (pc := 9) dX12_isPattern_9 rfl (by split <;> omega) ?_
  exact ⟨by split <;> split <;> omega, rfl⟩
abbrev pPatM (L : List Nat) (G : Nat → Nat → Int) (pn : Nat → Nat) (pl : Nat → Nat → Nat) (i : Int) (z : Option (Nat × (Nat → Nat))) : x_Q := qI L fun x G' => (¬ (0 ≤ i ∧ i < 4) ∧ x = -2 ∧ G' = G) ∨ ((0 ≤ i ∧ i < 4) ∧ zpo z = false ∧ x = -4 ∧ FM [142] [] G G' ∧ x_Fin xFL G') ∨ ((0 ≤ i ∧ i < 4) ∧ zpo z = true ∧ ∃ p, z = some p ∧ x = p.1 ∧ mPt (zup pn i.toNat p.1) (zup pl i.toNat p.2) G' ∧ mTx 0 (fun _ => 0) G' ∧ FM [142, 138, 139] [1] G G' ∧ x_Fin xFL G')
theorem l_mo_patW {i : Nat} {pn : Nat → Nat} {pl : Nat → Nat → Nat} {p : Nat × (Nat → Nat)} {o4 : Option (Nat × Int)} {L : List Nat} {G0 : Nat → Nat → Int} (hL : x_SL L) (hP : mPt pn pl G0) (hi : i < 4) (hz : zpo (some p) = true) (hp : p.1 ≤ 12 ∧ ∀ j, j < p.1 → zV (p.2 j)) :
    ∀ (k t : Nat) (G : Nat → Nat → Int), t + k = p.1 → (∀ j, j < p.1 → G 142 j = p.2 j) → (∀ j, j < t → G 138 (12 * i + j) = p.2 j) → (∀ a, a / 12 ≠ i → G 138 a = G0 138 a) → FM [142, 138, 139] [1] G0 G → G 139 = G0 139 → x_Fin xFL G →
    X mX12_pattern 2 0 0 (pPatM L G0 pn pl i (some p)) 97 [some (vR 127), some (vI i), some (vI p.1), some (vI t), o4] [] L G 0 0 := by
  intro k
  induction k with
  | zero =>
    intro t G ht h0 h1 h2 hR hm hF
    have ht : t = p.1 := by omega
    subst ht
    refine x_iloadn (pc := 97) dX12_pattern_97 rfl ?_
    refine x_iloadn (pc := 98) dX12_pattern_98 rfl ?_
    refine x_cge (tgt := 125) (pc := 99) dX12_pattern_99 (by decide) (by omega) (fun c_99 => ?_) (fun c_99 => ?_)
    rotate_left
    · skip
      exact absurd c_99 (by omega)
    refine x_aloadn (pc := 125) dX12_pattern_125 rfl ?_
    refine x_getR (139) (pc := 126) dX12_pattern_126 fl_X12_43 k_127 (hL 127 (by decide) (by decide)) (f_127_14 hF) ?_
    refine x_iloadn (pc := 129) dX12_pattern_129 rfl ?_
    refine x_iloadn (pc := 130) dX12_pattern_130 rfl ?_
    refine x_iastF (i) (pc := 131) dX12_pattern_131 k_139 (hL 139 (by decide) (by decide)) (⟨by omega, by omega, by decide⟩) hF (fun hF => ?_)
    refine x_aloadn (pc := 132) dX12_pattern_132 rfl ?_
    refine x_iconst (pc := 133) dX12_pattern_133 ?_
    refine x_putIF (pc := 134) dX12_pattern_134 fp_X12_137 k_127 (hL 127 (by decide) (by decide)) hF (fun hF => ?_)
    refine x_iloadn (pc := 137) dX12_pattern_137 rfl ?_
    refine x_rI (pc := 138) dX12_pattern_138 rfl ?_
    refine Or.inr (Or.inr ⟨by omega, hz, p, rfl, rfl, fun q hq => ?_, ⟨x_up_s, by decide, fun i hi => absurd hi (Nat.not_lt_zero i)⟩, (hR.upA (by decide)).upF (by decide), hF⟩)
    rw [Int.toNat_natCast]
    obtain ⟨b1, b2, b3⟩ := hP q hq
    by_cases c : q = i
    · subst c
      rw [zup_s, zup_s]
      exact ⟨by rw [x_up_ne (by decide)]; exact x_up_s, hp.1, fun j hj => ⟨by rw [x_up_ne (by decide), x_up_ne (by decide)]; exact h1 j hj, hp.2 j hj⟩⟩
    · rw [zup_n c, zup_n c]
      refine ⟨by rw [x_up_ne (by decide), x_up_k c, hm]; exact b1, b2, fun j hj => ?_⟩
      rw [x_up_ne (by decide), x_up_ne (by decide), h2 _ (by omega)]; exact b3 j hj
  | succ k ih =>
    intro t G ht h0 h1 h2 hR hm hF
    have hrt := h0 t (by omega)
    have hvt := (hp.2 t (by omega)).1
    refine x_iloadn (pc := 97) dX12_pattern_97 rfl ?_
    refine x_iloadn (pc := 98) dX12_pattern_98 rfl ?_
    refine x_cge (tgt := 125) (pc := 99) dX12_pattern_99 (by decide) (by omega) (fun c_99 => ?_) (fun c_99 => ?_)
    · skip
      exact absurd c_99 (by omega)
    refine x_aloadn (pc := 102) dX12_pattern_102 rfl ?_
    refine x_getR (138) (pc := 103) dX12_pattern_103 fl_X12_40 k_127 (hL 127 (by decide) (by decide)) (f_127_13 hF) ?_
    refine x_bipush (pc := 106) dX12_pattern_106 (by decide) ?_
    refine x_iloadn (pc := 108) dX12_pattern_108 rfl ?_
    refine x_imul (pc := 109) dX12_pattern_109 ?_
    refine x_iloadn (pc := 110) dX12_pattern_110 rfl ?_
    refine x_iadd (pc := 111) dX12_pattern_111 ?_
    refine x_aloadn (pc := 112) dX12_pattern_112 rfl ?_
    refine x_getR (142) (pc := 113) dX12_pattern_113 fl_X12_52 k_127 (hL 127 (by decide) (by decide)) (f_127_18 hF) ?_
    refine x_iloadn (pc := 116) dX12_pattern_116 rfl ?_
    refine x_iald (t) (pc := 117) dX12_pattern_117 k_142 (hL 142 (by decide) (by decide)) (⟨by omega, by omega, by decide⟩) ?_
    refine x_iastF (12 * i + t) (pc := 118) dX12_pattern_118 k_138 (hL 138 (by decide) (by decide)) (⟨by omega, by omega, by decide⟩) hF (fun hF => ?_)
    refine x_iinc (pc := 119) dX12_pattern_119 rfl (by decide) rfl ?_
    refine x_goto (tgt := 97) (pc := 122) dX12_pattern_122 (by decide) ?_
    refine ih (t + 1) _ (by omega) (fun j hj => by rw [x_up_ne (by decide)]; exact h0 j hj) (fun j hj => ?_) (fun a ha => ?_) (hR.upA (by decide)) (by rw [x_up_ne (by decide)]; exact hm) hF
    · by_cases c : j = t
      · subst c; rw [x_up_s]; exact hrt
      · rw [x_up_k (by omega)]; exact h1 j (by omega)
    · rw [x_up_k (by omega)]; exact h2 a ha
theorem l_mo_pat {n i : Nat} {b : Nat → Nat} {pn : Nat → Nat} {pl : Nat → Nat → Nat} {z : Option (Nat × (Nat → Nat))} {L : List Nat} {G0 : Nat → Nat → Int} (hL : x_SL L) (hT : mTx n b G0) (hP : mPt pn pl G0) (hi : i < 4) : ∀ (k t m : Nat) (f : Nat → Nat) (o4 : Option (Nat × Int)) (G : Nat → Nat → Int), t + k = n → m ≤ 12 → (∀ j, j < m → G 142 j = f j ∧ zV (f j)) → FM [142] [] G0 G → x_Fin xFL G → zpr b k t m f = z →
    X mX12_pattern 2 0 0 (pPatM L G0 pn pl i z) 14 [some (vR 127), some (vI i), some (vI m), some (vI t), o4] [] L G 0 0 := by
  intro k
  induction k with
  | zero =>
    intro t m f o4 G ht hm hr hR hF hz
    obtain ⟨h1, h2, h3⟩ := mTx_FM hT hR (by decide) (by decide) (by decide)
    rw [zpr] at hz
    subst hz
    refine x_iloadn (pc := 14) dX12_pattern_14 rfl ?_
    refine x_aloadn (pc := 15) dX12_pattern_15 rfl ?_
    refine x_getI (pc := 16) dX12_pattern_16 fl_X12_137 k_127 (hL 127 (by decide) (by decide)) ?_
    refine x_cge (tgt := 88) (pc := 19) dX12_pattern_19 (by decide) (by omega) (fun c_19 => ?_) (fun c_19 => ?_)
    rotate_left
    · skip
      exact absurd c_19 (by omega)
    refine x_iloadn (pc := 88) dX12_pattern_88 rfl ?_
    refine x_ine (tgt := 95) (pc := 89) dX12_pattern_89 (by decide) (by omega) (fun c_89 => ?_) (fun c_89 => ?_)
    · skip
      refine x_iconst (pc := 95) dX12_pattern_95 ?_
      refine x_istoren (pc := 96) dX12_pattern_96 rfl (by decide) rfl ?_
      exact l_mo_patW (p := (m, f)) hL hP hi (by rw [zpo]; exact decide_eq_true (by show 1 ≤ m; omega)) ⟨hm, fun j hj => (hr j hj).2⟩ m 0 _ (by omega) (fun j hj => (hr j hj).1) (fun j hj => absurd hj (Nat.not_lt_zero j)) (fun a _ => hR 138 a (by decide) (fun q => by cases q)) (hR.mono (by simp) (by simp)) (funext fun a => hR 139 a (by decide) (fun q => by cases q)) hF
    · skip
      refine x_bipush (pc := 92) dX12_pattern_92 (by decide) ?_
      refine x_rI (pc := 94) dX12_pattern_94 rfl ?_
      refine Or.inr (Or.inl ⟨by omega, ?_, rfl, hR, hF⟩)
      rw [zpo]; exact decide_eq_false (by show ¬ 1 ≤ m; omega)
  | succ k ih =>
    intro t m f o4 G ht hm hr hR hF hz
    obtain ⟨h1, h2, h3⟩ := mTx_FM hT hR (by decide) (by decide) (by decide)
    rw [zpr] at hz
    have hbi := h3 t (by omega)
    have hzb := zitem_bd (b t)
    have hzg := zitem_ge (b t)
    by_cases c0 : b t = 32
    · rw [if_pos c0] at hz
      refine x_iloadn (pc := 14) dX12_pattern_14 rfl ?_
      refine x_aloadn (pc := 15) dX12_pattern_15 rfl ?_
      refine x_getI (pc := 16) dX12_pattern_16 fl_X12_137 k_127 (hL 127 (by decide) (by decide)) ?_
      refine x_cge (tgt := 88) (pc := 19) dX12_pattern_19 (by decide) (by omega) (fun c_19 => ?_) (fun c_19 => ?_)
      · skip
        exact absurd c_19 (by omega)
      refine x_aloadn (pc := 22) dX12_pattern_22 rfl ?_
      refine x_getR (128) (pc := 23) dX12_pattern_23 fl_X12_7 k_127 (hL 127 (by decide) (by decide)) (f_127_0 hF) ?_
      refine x_iloadn (pc := 26) dX12_pattern_26 rfl ?_
      refine x_iald _ (pc := 27) dX12_pattern_27 k_128 (hL 128 (by decide) (by decide)) (⟨rfl, by omega, by decide⟩) ?_
      rw [hbi.1]
      refine x_cSI (pc := 28) dX12_pattern_28 lk_X12_143 (c_mo_itemOf (by omega)) (⟨by decide, by decide⟩) (Nat.le_of_ble_eq_true rfl) rfl ?_
      rintro x G' ⟨rfl, rfl⟩
      refine x_istore (pc := 31) dX12_pattern_31 (by decide) rfl ?_
      refine x_iload (pc := 33) dX12_pattern_33 rfl ?_
      refine x_iconst (pc := 35) dX12_pattern_35 ?_
      refine x_cne (tgt := 50) (pc := 36) dX12_pattern_36 (by decide) (by omega) (fun c_36 => ?_) (fun c_36 => ?_)
      · skip
        exact absurd c_36 (by omega)
      refine x_aloadn (pc := 39) dX12_pattern_39 rfl ?_
      refine x_getR (128) (pc := 40) dX12_pattern_40 fl_X12_7 k_127 (hL 127 (by decide) (by decide)) (f_127_0 hF) ?_
      refine x_iloadn (pc := 43) dX12_pattern_43 rfl ?_
      refine x_iald _ (pc := 44) dX12_pattern_44 k_128 (hL 128 (by decide) (by decide)) (⟨rfl, by omega, by decide⟩) ?_
      rw [hbi.1]
      refine x_bipush (pc := 45) dX12_pattern_45 (by decide) ?_
      refine x_cne (tgt := 62) (pc := 47) dX12_pattern_47 (by decide) (by omega) (fun c_47 => ?_) (fun c_47 => ?_)
      · skip
        exact absurd c_47 (by omega)
      refine x_iload (pc := 50) dX12_pattern_50 rfl ?_
      refine x_iconst (pc := 52) dX12_pattern_52 ?_
      refine x_ceq (tgt := 65) (pc := 53) dX12_pattern_53 (by decide) (by omega) (fun c_53 => ?_) (fun c_53 => ?_)
      rotate_left
      · skip
        exact absurd c_53 (by omega)
      refine x_iload (pc := 65) dX12_pattern_65 rfl ?_
      refine x_iconst (pc := 67) dX12_pattern_67 ?_
      refine x_ceq (tgt := 82) (pc := 68) dX12_pattern_68 (by decide) (by omega) (fun c_68 => ?_) (fun c_68 => ?_)
      rotate_left
      · skip
        exact absurd c_68 (by omega)
      refine x_iinc (pc := 82) dX12_pattern_82 rfl (by decide) rfl ?_
      refine x_goto (tgt := 14) (pc := 85) dX12_pattern_85 (by decide) ?_
      exact ih (t + 1) m f _ _ (by omega) hm hr hR hF hz
    · rw [if_neg c0] at hz
      by_cases c1 : zitem (b t) = -1
      · rw [if_pos (Or.inl c1)] at hz
        subst hz
        refine x_iloadn (pc := 14) dX12_pattern_14 rfl ?_
        refine x_aloadn (pc := 15) dX12_pattern_15 rfl ?_
        refine x_getI (pc := 16) dX12_pattern_16 fl_X12_137 k_127 (hL 127 (by decide) (by decide)) ?_
        refine x_cge (tgt := 88) (pc := 19) dX12_pattern_19 (by decide) (by omega) (fun c_19 => ?_) (fun c_19 => ?_)
        · skip
          exact absurd c_19 (by omega)
        refine x_aloadn (pc := 22) dX12_pattern_22 rfl ?_
        refine x_getR (128) (pc := 23) dX12_pattern_23 fl_X12_7 k_127 (hL 127 (by decide) (by decide)) (f_127_0 hF) ?_
        refine x_iloadn (pc := 26) dX12_pattern_26 rfl ?_
        refine x_iald _ (pc := 27) dX12_pattern_27 k_128 (hL 128 (by decide) (by decide)) (⟨rfl, by omega, by decide⟩) ?_
        rw [hbi.1]
        refine x_cSI (pc := 28) dX12_pattern_28 lk_X12_143 (c_mo_itemOf (by omega)) (⟨by decide, by decide⟩) (Nat.le_of_ble_eq_true rfl) rfl ?_
        rintro x G' ⟨rfl, rfl⟩
        refine x_istore (pc := 31) dX12_pattern_31 (by decide) rfl ?_
        refine x_iload (pc := 33) dX12_pattern_33 rfl ?_
        refine x_iconst (pc := 35) dX12_pattern_35 ?_
        refine x_cne (tgt := 50) (pc := 36) dX12_pattern_36 (by decide) (by omega) (fun c_36 => ?_) (fun c_36 => ?_)
        · skip
          exact absurd c_36 (by omega)
        refine x_aloadn (pc := 39) dX12_pattern_39 rfl ?_
        refine x_getR (128) (pc := 40) dX12_pattern_40 fl_X12_7 k_127 (hL 127 (by decide) (by decide)) (f_127_0 hF) ?_
        refine x_iloadn (pc := 43) dX12_pattern_43 rfl ?_
        refine x_iald _ (pc := 44) dX12_pattern_44 k_128 (hL 128 (by decide) (by decide)) (⟨rfl, by omega, by decide⟩) ?_
        rw [hbi.1]
        refine x_bipush (pc := 45) dX12_pattern_45 (by decide) ?_
        refine x_cne (tgt := 62) (pc := 47) dX12_pattern_47 (by decide) (by omega) (fun c_47 => ?_) (fun c_47 => ?_)
        rotate_left
        · skip
          exact absurd c_47 (by omega)
        refine x_bipush (pc := 62) dX12_pattern_62 (by decide) ?_
        refine x_rI (pc := 64) dX12_pattern_64 rfl ?_
        exact Or.inr (Or.inl ⟨by omega, rfl, rfl, hR, hF⟩)
      · by_cases c2 : m = 12
        · rw [if_pos (Or.inr c2)] at hz
          subst hz
          refine x_iloadn (pc := 14) dX12_pattern_14 rfl ?_
          refine x_aloadn (pc := 15) dX12_pattern_15 rfl ?_
          refine x_getI (pc := 16) dX12_pattern_16 fl_X12_137 k_127 (hL 127 (by decide) (by decide)) ?_
          refine x_cge (tgt := 88) (pc := 19) dX12_pattern_19 (by decide) (by omega) (fun c_19 => ?_) (fun c_19 => ?_)
          · skip
            exact absurd c_19 (by omega)
          refine x_aloadn (pc := 22) dX12_pattern_22 rfl ?_
          refine x_getR (128) (pc := 23) dX12_pattern_23 fl_X12_7 k_127 (hL 127 (by decide) (by decide)) (f_127_0 hF) ?_
          refine x_iloadn (pc := 26) dX12_pattern_26 rfl ?_
          refine x_iald _ (pc := 27) dX12_pattern_27 k_128 (hL 128 (by decide) (by decide)) (⟨rfl, by omega, by decide⟩) ?_
          rw [hbi.1]
          refine x_cSI (pc := 28) dX12_pattern_28 lk_X12_143 (c_mo_itemOf (by omega)) (⟨by decide, by decide⟩) (Nat.le_of_ble_eq_true rfl) rfl ?_
          rintro x G' ⟨rfl, rfl⟩
          refine x_istore (pc := 31) dX12_pattern_31 (by decide) rfl ?_
          refine x_iload (pc := 33) dX12_pattern_33 rfl ?_
          refine x_iconst (pc := 35) dX12_pattern_35 ?_
          refine x_cne (tgt := 50) (pc := 36) dX12_pattern_36 (by decide) (by omega) (fun c_36 => ?_) (fun c_36 => ?_)
          rotate_left
          · skip
            exact absurd c_36 (by omega)
          refine x_iload (pc := 50) dX12_pattern_50 rfl ?_
          refine x_iconst (pc := 52) dX12_pattern_52 ?_
          refine x_ceq (tgt := 65) (pc := 53) dX12_pattern_53 (by decide) (by omega) (fun c_53 => ?_) (fun c_53 => ?_)
          · skip
            exact absurd c_53 (by omega)
          refine x_iloadn (pc := 56) dX12_pattern_56 rfl ?_
          refine x_bipush (pc := 57) dX12_pattern_57 (by decide) ?_
          refine x_cne (tgt := 65) (pc := 59) dX12_pattern_59 (by decide) (by omega) (fun c_59 => ?_) (fun c_59 => ?_)
          · skip
            exact absurd c_59 (by omega)
          refine x_bipush (pc := 62) dX12_pattern_62 (by decide) ?_
          refine x_rI (pc := 64) dX12_pattern_64 rfl ?_
          exact Or.inr (Or.inl ⟨by omega, rfl, rfl, hR, hF⟩)
        · rw [if_neg (by omega)] at hz
          obtain ⟨v1, v2⟩ := zitem_V (c := b t) (by omega)
          refine x_iloadn (pc := 14) dX12_pattern_14 rfl ?_
          refine x_aloadn (pc := 15) dX12_pattern_15 rfl ?_
          refine x_getI (pc := 16) dX12_pattern_16 fl_X12_137 k_127 (hL 127 (by decide) (by decide)) ?_
          refine x_cge (tgt := 88) (pc := 19) dX12_pattern_19 (by decide) (by omega) (fun c_19 => ?_) (fun c_19 => ?_)
          · skip
            exact absurd c_19 (by omega)
          refine x_aloadn (pc := 22) dX12_pattern_22 rfl ?_
          refine x_getR (128) (pc := 23) dX12_pattern_23 fl_X12_7 k_127 (hL 127 (by decide) (by decide)) (f_127_0 hF) ?_
          refine x_iloadn (pc := 26) dX12_pattern_26 rfl ?_
          refine x_iald _ (pc := 27) dX12_pattern_27 k_128 (hL 128 (by decide) (by decide)) (⟨rfl, by omega, by decide⟩) ?_
          rw [hbi.1]
          refine x_cSI (pc := 28) dX12_pattern_28 lk_X12_143 (c_mo_itemOf (by omega)) (⟨by decide, by decide⟩) (Nat.le_of_ble_eq_true rfl) rfl ?_
          rintro x G' ⟨rfl, rfl⟩
          refine x_istore (pc := 31) dX12_pattern_31 (by decide) rfl ?_
          refine x_iload (pc := 33) dX12_pattern_33 rfl ?_
          refine x_iconst (pc := 35) dX12_pattern_35 ?_
          refine x_cne (tgt := 50) (pc := 36) dX12_pattern_36 (by decide) (by omega) (fun c_36 => ?_) (fun c_36 => ?_)
          rotate_left
          · skip
            exact absurd c_36 (by omega)
          refine x_iload (pc := 50) dX12_pattern_50 rfl ?_
          refine x_iconst (pc := 52) dX12_pattern_52 ?_
          refine x_ceq (tgt := 65) (pc := 53) dX12_pattern_53 (by decide) (by omega) (fun c_53 => ?_) (fun c_53 => ?_)
          · skip
            exact absurd c_53 (by omega)
          refine x_iloadn (pc := 56) dX12_pattern_56 rfl ?_
          refine x_bipush (pc := 57) dX12_pattern_57 (by decide) ?_
          refine x_cne (tgt := 65) (pc := 59) dX12_pattern_59 (by decide) (by omega) (fun c_59 => ?_) (fun c_59 => ?_)
          rotate_left
          · skip
            exact absurd c_59 (by omega)
          refine x_iload (pc := 65) dX12_pattern_65 rfl ?_
          refine x_iconst (pc := 67) dX12_pattern_67 ?_
          refine x_ceq (tgt := 82) (pc := 68) dX12_pattern_68 (by decide) (by omega) (fun c_68 => ?_) (fun c_68 => ?_)
          · skip
            exact absurd c_68 (by omega)
          refine x_aloadn (pc := 71) dX12_pattern_71 rfl ?_
          refine x_getR (142) (pc := 72) dX12_pattern_72 fl_X12_52 k_127 (hL 127 (by decide) (by decide)) (f_127_18 hF) ?_
          refine x_iloadn (pc := 75) dX12_pattern_75 rfl ?_
          refine x_iload (pc := 76) dX12_pattern_76 rfl ?_
          refine x_iastF (m) (pc := 78) dX12_pattern_78 k_142 (hL 142 (by decide) (by decide)) (⟨by omega, by omega, by decide⟩) hF (fun hF => ?_)
          refine x_iinc (pc := 79) dX12_pattern_79 rfl (by decide) rfl ?_
          refine x_iinc (pc := 82) dX12_pattern_82 rfl (by decide) rfl ?_
          refine x_goto (tgt := 14) (pc := 85) dX12_pattern_85 (by decide) ?_
          refine ih (t + 1) (m + 1) _ _ _ (by omega) (by omega) (fun j hj => ?_) (hR.upA (by decide)) hF hz
          by_cases c : j = m
          · subst c; rw [zup_s]; exact ⟨by rw [x_up_s]; exact v2.symm, v1⟩
          · rw [zup_n c, x_up_k c]; exact hr j (by omega)
theorem c_mo_pattern {n : Nat} {b : Nat → Nat} {pn : Nat → Nat} {pl : Nat → Nat → Nat} {i : Int} {L : List Nat} {G : Nat → Nat → Int} (hL : x_SL L) (hF : x_Fin xFL G) (hT : mTx n b G) (hP : mPt pn pl G) (hi : -2147483648 ≤ i ∧ i < 2147483648) :
    CM yX12_pattern mX12_pattern 2 0 0 [vR 127, vI i] L G (pPatM L G pn pl i (zpr b n 0 0 (fun _ => 0))) := by
  refine Ct.of_X (μ := mX12_pattern) rfl rfl (by decide) (fun h => by cases h) (Nat.le_of_ble_eq_true rfl) rfl ?_
  refine x_iloadn (pc := 0) dX12_pattern_0 rfl ?_
  refine x_cSI (pc := 1) dX12_pattern_1 lk_X12_325 (c_mo_isPattern hi) (⟨by decide, by decide⟩) (Nat.le_of_ble_eq_true rfl) rfl ?_
  rintro x G' ⟨rfl, rfl⟩
  refine x_ine (tgt := 10) (pc := 4) dX12_pattern_4 (by decide) (by split <;> omega) (fun c_4 => ?_) (fun c_4 => ?_)
  · skip
    have g0 : 0 ≤ i ∧ i < 4 := by split at c_4 <;> omega
    obtain ⟨i, rfl⟩ : ∃ j : Nat, i = j := ⟨i.toNat, by omega⟩
    refine x_iconst (pc := 10) dX12_pattern_10 ?_
    refine x_istoren (pc := 11) dX12_pattern_11 rfl (by decide) rfl ?_
    refine x_iconst (pc := 12) dX12_pattern_12 ?_
    refine x_istoren (pc := 13) dX12_pattern_13 rfl (by decide) rfl ?_
    exact l_mo_pat (i := i) hL hT hP (by omega) n 0 0 (fun _ => 0) _ _ (by omega) (by decide) (fun j hj => absurd hj (Nat.not_lt_zero j)) FM.rf hF rfl
  · skip
    refine x_bipush (pc := 7) dX12_pattern_7 (by decide) ?_
    refine x_rI (pc := 9) dX12_pattern_9 rfl ?_
    exact Or.inl ⟨by split at c_4 <;> omega, rfl, rfl⟩

