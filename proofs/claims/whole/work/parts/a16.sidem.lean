/-! the reference: an equation on its way, as two rows -/
def mAB (A B : List Nat) (G : Nat → Nat → Int) : Prop := G 127 37 = ((A.length : Nat) : Int) ∧ G 127 38 = ((B.length : Nat) : Int) ∧ (∀ i, i < A.length → G 155 i = ((A.getD i 0 : Nat) : Int)) ∧ ∀ i, i < B.length → G 156 i = ((B.getD i 0 : Nat) : Int)
theorem mAB.FM {A B : List Nat} {T F : List Nat} {G G' : Nat → Nat → Int} (h : mAB A B G) (k : FM T F G G') (h1 : 155 ∉ T) (h2 : 156 ∉ T) (h3 : 127 ∉ T) (h4 : 37 ∉ F) (h5 : 38 ∉ F) : mAB A B G' := by
  obtain ⟨a1, a2, a3, a4⟩ := h
  exact ⟨by rw [k 127 37 h3 (fun _ => h4)]; exact a1, by rw [k 127 38 h3 (fun _ => h5)]; exact a2, fun i hi => by rw [k 155 _ h1 (fun e => absurd e (by decide))]; exact a3 i hi, fun i hi => by rw [k 156 _ h2 (fun e => absurd e (by decide))]; exact a4 i hi⟩
abbrev z_msS : List Nat := [155, 156]
abbrev z_msF : List Nat := [37, 38]
section XMS
variable {L : List Nat} {A B : List Nat} {n : Nat}
abbrev pMs (L : List Nat) (G0 : Nat → Nat → Int) (A B : List Nat) : x_Q := qV L fun G' => mAB (A.drop (zcp A B)) (B.drop (zcp A B)) G' ∧ FM z_msS z_msF G0 G' ∧ x_Fin xFL G'
theorem l_mo_stB {G0 : Nat → Nat → Int} (hL : x_SL L) (hz : n = zcp A B) (hA : n ≤ A.length) (hB : n ≤ B.length) (hn : A.length ≤ 60 ∧ B.length ≤ 60) :
    ∀ (r i : Nat) (G : Nat → Nat → Int), i + r = B.length → n ≤ i → G 127 37 = ((A.length : Nat) : Int) → G 127 38 = ((B.length : Nat) : Int) → (∀ j, j < A.length - n → G 155 j = ((A.getD (n + j) 0 : Nat) : Int)) → (∀ j, j < i - n → G 156 j = ((B.getD (n + j) 0 : Nat) : Int)) → (∀ j, i ≤ j → j < B.length → G 156 j = ((B.getD j 0 : Nat) : Int)) → FM z_msS z_msF G0 G → x_Fin xFL G →
    X mX12_strike 0 0 0 (pMs L G0 A B) 71 [some (vR 127), some (vI n), some (vI i)] [] L G 0 0 := by
  intro r
  induction r with
  | zero =>
    intro i G hi hni h1 h2 h3 h4 h5 hQ hF
    have hi : i = B.length := by omega
    subst hi
    refine x_iloadn (pc := 71) dX12_strike_71 rfl ?_
    refine x_aloadn (pc := 72) dX12_strike_72 rfl ?_
    refine x_getI (pc := 73) dX12_strike_73 fl_X12_227 k_127 (hL 127 (by decide) (by decide)) ?_
    rw [h2]
    refine x_cge (tgt := 99) (pc := 76) dX12_strike_76 (by decide) (by omega) (fun c_76 => ?_) (fun c_76 => ?_)
    rotate_left
    · skip
      exact absurd c_76 (by omega)
    refine x_aloadn (pc := 99) dX12_strike_99 rfl ?_
    refine x_dup (pc := 100) dX12_strike_100 (fun h => by cases h) ?_
    refine x_getI (pc := 101) dX12_strike_101 fl_X12_224 k_127 (hL 127 (by decide) (by decide)) ?_
    rw [h1]
    refine x_iloadn (pc := 104) dX12_strike_104 rfl ?_
    refine x_isub (pc := 105) dX12_strike_105 ?_
    refine x_putIF (pc := 106) dX12_strike_106 fp_X12_224 k_127 (hL 127 (by decide) (by decide)) hF (fun hF => ?_)
    refine x_aloadn (pc := 109) dX12_strike_109 rfl ?_
    refine x_dup (pc := 110) dX12_strike_110 (fun h => by cases h) ?_
    refine x_getI (pc := 111) dX12_strike_111 fl_X12_227 k_127 (hL 127 (by decide) (by decide)) ?_
    rw [x_up_k (by decide), h2]
    refine x_iloadn (pc := 114) dX12_strike_114 rfl ?_
    refine x_isub (pc := 115) dX12_strike_115 ?_
    refine x_putIF (pc := 116) dX12_strike_116 fp_X12_227 k_127 (hL 127 (by decide) (by decide)) hF (fun hF => ?_)
    refine x_rV (pc := 119) dX12_strike_119 rfl ?_
    refine ⟨⟨?_, ?_, fun j hj => ?_, fun j hj => ?_⟩, (hQ.upF (by decide)).upF (by decide), hF⟩
    · rw [x_up_k (by decide), x_up_s, List.length_drop, ← hz]; omega
    · rw [x_up_s, List.length_drop, ← hz]; omega
    · rw [List.length_drop, ← hz] at hj
      rw [x_up_ne (by decide), x_up_ne (by decide), zgd_dr, ← hz]; exact h3 j hj
    · rw [List.length_drop, ← hz] at hj
      rw [x_up_ne (by decide), x_up_ne (by decide), zgd_dr, ← hz]; exact h4 j hj
  | succ r ih =>
    intro i G hi hni h1 h2 h3 h4 h5 hQ hF
    have hx := h5 i (Nat.le_refl _) (by omega)
    have hin : ((i : Nat) : Int) - ((n : Nat) : Int) = ((i - n : Nat) : Int) := by omega
    refine x_iloadn (pc := 71) dX12_strike_71 rfl ?_
    refine x_aloadn (pc := 72) dX12_strike_72 rfl ?_
    refine x_getI (pc := 73) dX12_strike_73 fl_X12_227 k_127 (hL 127 (by decide) (by decide)) ?_
    rw [h2]
    refine x_cge (tgt := 99) (pc := 76) dX12_strike_76 (by decide) (by omega) (fun c_76 => ?_) (fun c_76 => ?_)
    · skip
      exact absurd c_76 (by omega)
    refine x_aloadn (pc := 79) dX12_strike_79 rfl ?_
    refine x_getR (156) (pc := 80) dX12_strike_80 fl_X12_96 k_127 (hL 127 (by decide) (by decide)) (f_127_36 hF) ?_
    refine x_iloadn (pc := 83) dX12_strike_83 rfl ?_
    refine x_iloadn (pc := 84) dX12_strike_84 rfl ?_
    refine x_isub (pc := 85) dX12_strike_85 ?_
    rw [hin]
    refine x_aloadn (pc := 86) dX12_strike_86 rfl ?_
    refine x_getR (156) (pc := 87) dX12_strike_87 fl_X12_96 k_127 (hL 127 (by decide) (by decide)) (f_127_36 hF) ?_
    refine x_iloadn (pc := 90) dX12_strike_90 rfl ?_
    refine x_iald (i) (pc := 91) dX12_strike_91 k_156 (hL 156 (by decide) (by decide)) (⟨by omega, by omega, by decide⟩) ?_
    rw [hx]
    refine x_iastF (i - n) (pc := 92) dX12_strike_92 k_156 (hL 156 (by decide) (by decide)) (⟨by omega, by omega, by decide⟩) hF (fun hF => ?_)
    refine x_iinc (pc := 93) dX12_strike_93 rfl (by decide) rfl ?_
    refine x_goto (tgt := 71) (pc := 96) dX12_strike_96 (by decide) ?_
    refine ih (i + 1) _ (by omega) (by omega) (by rw [x_up_ne (by decide)]; exact h1) (by rw [x_up_ne (by decide)]; exact h2) (fun j hj => by rw [x_up_ne (by decide)]; exact h3 j hj) (fun j hj => ?_) (fun j h6 h7 => by rw [x_up_k (by omega)]; exact h5 j (by omega) h7) (hQ.upA (by decide)) hF
    by_cases c : j = i - n
    · rw [c, x_up_s, show n + (i - n) = i by omega]
    · rw [x_up_k c]; exact h4 j (by omega)
theorem l_mo_stA {G0 : Nat → Nat → Int} (hL : x_SL L) (hz : n = zcp A B) (hA : n ≤ A.length) (hB : n ≤ B.length) (hn : A.length ≤ 60 ∧ B.length ≤ 60) :
    ∀ (r i : Nat) (G : Nat → Nat → Int), i + r = A.length → n ≤ i → G 127 37 = ((A.length : Nat) : Int) → G 127 38 = ((B.length : Nat) : Int) → (∀ j, j < i - n → G 155 j = ((A.getD (n + j) 0 : Nat) : Int)) → (∀ j, i ≤ j → j < A.length → G 155 j = ((A.getD j 0 : Nat) : Int)) → (∀ j, j < B.length → G 156 j = ((B.getD j 0 : Nat) : Int)) → FM z_msS z_msF G0 G → x_Fin xFL G →
    X mX12_strike 0 0 0 (pMs L G0 A B) 41 [some (vR 127), some (vI n), some (vI i)] [] L G 0 0 := by
  intro r
  induction r with
  | zero =>
    intro i G hi hni h1 h2 h4 h5 h6 hQ hF
    have hi : i = A.length := by omega
    subst hi
    refine x_iloadn (pc := 41) dX12_strike_41 rfl ?_
    refine x_aloadn (pc := 42) dX12_strike_42 rfl ?_
    refine x_getI (pc := 43) dX12_strike_43 fl_X12_224 k_127 (hL 127 (by decide) (by decide)) ?_
    rw [h1]
    refine x_cge (tgt := 69) (pc := 46) dX12_strike_46 (by decide) (by omega) (fun c_46 => ?_) (fun c_46 => ?_)
    rotate_left
    · skip
      exact absurd c_46 (by omega)
    refine x_iloadn (pc := 69) dX12_strike_69 rfl ?_
    refine x_istoren (pc := 70) dX12_strike_70 rfl (by decide) rfl ?_
    exact l_mo_stB hL hz hA hB hn (B.length - n) n G (by omega) (Nat.le_refl _) h1 h2 h4 (fun j hj => by omega) (fun j _ hj => h6 j hj) hQ hF
  | succ r ih =>
    intro i G hi hni h1 h2 h4 h5 h6 hQ hF
    have hx := h5 i (Nat.le_refl _) (by omega)
    have hin : ((i : Nat) : Int) - ((n : Nat) : Int) = ((i - n : Nat) : Int) := by omega
    refine x_iloadn (pc := 41) dX12_strike_41 rfl ?_
    refine x_aloadn (pc := 42) dX12_strike_42 rfl ?_
    refine x_getI (pc := 43) dX12_strike_43 fl_X12_224 k_127 (hL 127 (by decide) (by decide)) ?_
    rw [h1]
    refine x_cge (tgt := 69) (pc := 46) dX12_strike_46 (by decide) (by omega) (fun c_46 => ?_) (fun c_46 => ?_)
    · skip
      exact absurd c_46 (by omega)
    refine x_aloadn (pc := 49) dX12_strike_49 rfl ?_
    refine x_getR (155) (pc := 50) dX12_strike_50 fl_X12_93 k_127 (hL 127 (by decide) (by decide)) (f_127_35 hF) ?_
    refine x_iloadn (pc := 53) dX12_strike_53 rfl ?_
    refine x_iloadn (pc := 54) dX12_strike_54 rfl ?_
    refine x_isub (pc := 55) dX12_strike_55 ?_
    rw [hin]
    refine x_aloadn (pc := 56) dX12_strike_56 rfl ?_
    refine x_getR (155) (pc := 57) dX12_strike_57 fl_X12_93 k_127 (hL 127 (by decide) (by decide)) (f_127_35 hF) ?_
    refine x_iloadn (pc := 60) dX12_strike_60 rfl ?_
    refine x_iald (i) (pc := 61) dX12_strike_61 k_155 (hL 155 (by decide) (by decide)) (⟨by omega, by omega, by decide⟩) ?_
    rw [hx]
    refine x_iastF (i - n) (pc := 62) dX12_strike_62 k_155 (hL 155 (by decide) (by decide)) (⟨by omega, by omega, by decide⟩) hF (fun hF => ?_)
    refine x_iinc (pc := 63) dX12_strike_63 rfl (by decide) rfl ?_
    refine x_goto (tgt := 41) (pc := 66) dX12_strike_66 (by decide) ?_
    refine ih (i + 1) _ (by omega) (by omega) (by rw [x_up_ne (by decide)]; exact h1) (by rw [x_up_ne (by decide)]; exact h2) (fun j hj => ?_) (fun j h7 h8 => by rw [x_up_k (by omega)]; exact h5 j (by omega) h8) (fun j hj => by rw [x_up_ne (by decide)]; exact h6 j hj) (hQ.upA (by decide)) hF
    by_cases c : j = i - n
    · rw [c, x_up_s, show n + (i - n) = i by omega]
    · rw [x_up_k c]; exact h4 j (by omega)
theorem l_mo_st1 {G : Nat → Nat → Int} (hL : x_SL L) (hF : x_Fin xFL G) (h : mAB A B G) (hA : zb8 A) (hB : zb8 B) (hn : A.length ≤ 60 ∧ B.length ≤ 60) :
    ∀ (r i : Nat) (o2 : Option (Nat × Int)), i + r = min A.length B.length → (∀ j, j < i → A.getD j 0 = B.getD j 0) →
    X mX12_strike 0 0 0 (pMs L G A B) 2 [some (vR 127), some (vI i), o2] [] L G 0 0 := by
  obtain ⟨h1, h2, h3, h4⟩ := h
  have fin : ∀ i : Nat, i = zcp A B → i ≤ A.length → i ≤ B.length → ∀ o2 : Option (Nat × Int), X mX12_strike 0 0 0 (pMs L G A B) 39 [some (vR 127), some (vI i), o2] [] L G 0 0 := by
    intro i hz hi1 hi2 o2
    refine x_iloadn (pc := 39) dX12_strike_39 rfl ?_
    refine x_istoren (pc := 40) dX12_strike_40 rfl (by decide) rfl ?_
    exact l_mo_stA hL hz hi1 hi2 hn (A.length - i) i G (by omega) (Nat.le_refl _) h1 h2 (fun j hj => by omega) (fun j _ hj => h3 j hj) h4 FM.rf hF
  intro r
  induction r with
  | zero =>
    intro i o2 hi he
    have hz : i = zcp A B := zcp_un (by omega) (by omega) he (by omega)
    refine x_iloadn (pc := 2) dX12_strike_2 rfl ?_
    refine x_aloadn (pc := 3) dX12_strike_3 rfl ?_
    refine x_getI (pc := 4) dX12_strike_4 fl_X12_224 k_127 (hL 127 (by decide) (by decide)) ?_
    rw [h1]
    refine x_cge (tgt := 39) (pc := 7) dX12_strike_7 (by decide) (by omega) (fun c_7 => ?_) (fun c_7 => ?_)
    · skip
      exact fin i hz (by omega) (by omega) _
    · skip
      refine x_iloadn (pc := 10) dX12_strike_10 rfl ?_
      refine x_aloadn (pc := 11) dX12_strike_11 rfl ?_
      refine x_getI (pc := 12) dX12_strike_12 fl_X12_227 k_127 (hL 127 (by decide) (by decide)) ?_
      rw [h2]
      refine x_cge (tgt := 39) (pc := 15) dX12_strike_15 (by decide) (by omega) (fun c_15 => ?_) (fun c_15 => ?_)
      rotate_left
      · skip
        exact absurd c_15 (by omega)
      exact fin i hz (by omega) (by omega) _
  | succ r ih =>
    intro i o2 hi he
    have r0 := h3 i (by omega)
    have r1 := h4 i (by omega)
    have v0 := zb8_at hA (show i < A.length by omega)
    have v1 := zb8_at hB (show i < B.length by omega)
    refine x_iloadn (pc := 2) dX12_strike_2 rfl ?_
    refine x_aloadn (pc := 3) dX12_strike_3 rfl ?_
    refine x_getI (pc := 4) dX12_strike_4 fl_X12_224 k_127 (hL 127 (by decide) (by decide)) ?_
    rw [h1]
    refine x_cge (tgt := 39) (pc := 7) dX12_strike_7 (by decide) (by omega) (fun c_7 => ?_) (fun c_7 => ?_)
    · skip
      exact absurd c_7 (by omega)
    refine x_iloadn (pc := 10) dX12_strike_10 rfl ?_
    refine x_aloadn (pc := 11) dX12_strike_11 rfl ?_
    refine x_getI (pc := 12) dX12_strike_12 fl_X12_227 k_127 (hL 127 (by decide) (by decide)) ?_
    rw [h2]
    refine x_cge (tgt := 39) (pc := 15) dX12_strike_15 (by decide) (by omega) (fun c_15 => ?_) (fun c_15 => ?_)
    · skip
      exact absurd c_15 (by omega)
    refine x_aloadn (pc := 18) dX12_strike_18 rfl ?_
    refine x_getR (155) (pc := 19) dX12_strike_19 fl_X12_93 k_127 (hL 127 (by decide) (by decide)) (f_127_35 hF) ?_
    refine x_iloadn (pc := 22) dX12_strike_22 rfl ?_
    refine x_iald (i) (pc := 23) dX12_strike_23 k_155 (hL 155 (by decide) (by decide)) (⟨by omega, by omega, by decide⟩) ?_
    rw [r0]
    refine x_aloadn (pc := 24) dX12_strike_24 rfl ?_
    refine x_getR (156) (pc := 25) dX12_strike_25 fl_X12_96 k_127 (hL 127 (by decide) (by decide)) (f_127_36 hF) ?_
    refine x_iloadn (pc := 28) dX12_strike_28 rfl ?_
    refine x_iald (i) (pc := 29) dX12_strike_29 k_156 (hL 156 (by decide) (by decide)) (⟨by omega, by omega, by decide⟩) ?_
    rw [r1]
    refine x_cne (tgt := 39) (pc := 30) dX12_strike_30 (by decide) (by omega) (fun c_30 => ?_) (fun c_30 => ?_)
    · skip
      exact fin i (zcp_un (by omega) (by omega) he (Or.inr (Or.inr (by omega)))) (by omega) (by omega) _
    · skip
      refine x_iinc (pc := 33) dX12_strike_33 rfl (by decide) rfl ?_
      refine x_goto (tgt := 2) (pc := 36) dX12_strike_36 (by decide) ?_
      refine ih (i + 1) _ (by omega) (fun j hj => ?_)
      by_cases c : j = i
      · rw [c]; omega
      · exact he j (by omega)
theorem c_mo_strike {G : Nat → Nat → Int} (hL : x_SL L) (hF : x_Fin xFL G) (h : mAB A B G) (hA : zb8 A) (hB : zb8 B) (hn : A.length ≤ 60 ∧ B.length ≤ 60) :
    CM yX12_strike mX12_strike 0 0 0 [vR 127] L G (pMs L G A B) := by
  refine Ct.of_X (μ := mX12_strike) rfl rfl (by decide) (fun h => by cases h) (Nat.le_of_ble_eq_true rfl) rfl ?_
  refine x_iconst (pc := 0) dX12_strike_0 ?_
  refine x_istoren (pc := 1) dX12_strike_1 rfl (by decide) rfl ?_
  exact l_mo_st1 hL hF h hA hB hn (min A.length B.length) 0 _ (Nat.zero_add _) (fun j hj => absurd hj (Nat.not_lt_zero j))
/-! the unknowns that are there -/
theorem l_mo_nnB {G : Nat → Nat → Int} (hL : x_SL L) (hF : x_Fin xFL G) (h : mAB A B G) (hB : zb8 B) (hn : B.length ≤ 60) {V : Nat} :
    ∀ (r i b : Nat), i + r = B.length → b < 16 → znf b (B.drop i) = V → X mX12_namesNow 0 0 0 (qI L fun x G' => x = ((V : Nat) : Int) ∧ G' = G) 47 [some (vR 127), some (vI b), some (vI i)] [] L G 0 0 := by
  obtain ⟨h1, h2, h3, h4⟩ := h
  intro r
  induction r with
  | zero =>
    intro i b hi hb hV
    have hi : i = B.length := by omega
    subst hi
    rw [List.drop_length] at hV
    have hV : b = V := hV
    subst hV
    refine x_iloadn (pc := 47) dX12_namesNow_47 rfl ?_
    refine x_aloadn (pc := 48) dX12_namesNow_48 rfl ?_
    refine x_getI (pc := 49) dX12_namesNow_49 fl_X12_227 k_127 (hL 127 (by decide) (by decide)) ?_
    rw [h2]
    refine x_cge (tgt := 88) (pc := 52) dX12_namesNow_52 (by decide) (by omega) (fun c_52 => ?_) (fun c_52 => ?_)
    rotate_left
    · skip
      exact absurd c_52 (by omega)
    refine x_iloadn (pc := 88) dX12_namesNow_88 rfl ?_
    refine x_rI (pc := 89) dX12_namesNow_89 rfl ?_
    exact ⟨rfl, rfl⟩
  | succ r ih =>
    intro i b hi hb hV
    have hr := h4 i (by omega)
    have hv := zb8_at hB (show i < B.length by omega)
    rw [zdr_at (show i < B.length by omega), znf] at hV
    obtain ⟨x, hx⟩ : ∃ x, x = B.getD i 0 := ⟨_, rfl⟩
    rw [← hx] at hr hv hV
    have hp2 : (1 : Int) * 2 ^ (x - 4) = ((2 ^ (x - 4) : Nat) : Int) := by simp
    have hp3 : 2 ^ (x - 4) < 2 ^ 4 := Nat.pow_lt_pow_right (by decide) (by omega)
    have hor := Nat.or_lt_two_pow (n := 4) hb hp3
    refine x_iloadn (pc := 47) dX12_namesNow_47 rfl ?_
    refine x_aloadn (pc := 48) dX12_namesNow_48 rfl ?_
    refine x_getI (pc := 49) dX12_namesNow_49 fl_X12_227 k_127 (hL 127 (by decide) (by decide)) ?_
    rw [h2]
    refine x_cge (tgt := 88) (pc := 52) dX12_namesNow_52 (by decide) (by omega) (fun c_52 => ?_) (fun c_52 => ?_)
    · skip
      exact absurd c_52 (by omega)
    refine x_iloadn (pc := 55) dX12_namesNow_55 rfl ?_
    refine x_aloadn (pc := 56) dX12_namesNow_56 rfl ?_
    refine x_getR (156) (pc := 57) dX12_namesNow_57 fl_X12_96 k_127 (hL 127 (by decide) (by decide)) (f_127_36 hF) ?_
    refine x_iloadn (pc := 60) dX12_namesNow_60 rfl ?_
    refine x_iald (i) (pc := 61) dX12_namesNow_61 k_156 (hL 156 (by decide) (by decide)) (⟨by omega, by omega, by decide⟩) ?_
    rw [hr]
    refine x_iconst (pc := 62) dX12_namesNow_62 ?_
    refine x_cle (tgt := 79) (pc := 63) dX12_namesNow_63 (by decide) (by omega) (fun c_63 => ?_) (fun c_63 => ?_)
    · skip
      refine x_iconst (pc := 79) dX12_namesNow_79 ?_
      first
      | (refine x_iorN (pc := 80) dX12_namesNow_80 b 0 rfl rfl (by omega) ?_
         rw [Nat.or_zero]
         refine x_istoren (pc := 81) dX12_namesNow_81 rfl (by decide) rfl ?_
         refine x_iinc (pc := 82) dX12_namesNow_82 rfl (by decide) rfl ?_
         refine x_goto (tgt := 47) (pc := 85) dX12_namesNow_85 (by decide) ?_
         exact ih (i + 1) b (by omega) hb (by rw [if_neg (by omega)] at hV; exact hV))
      | (refine x_iorN (pc := 80) dX12_namesNow_80 b (2 ^ (x - 4)) rfl rfl (by omega) ?_
         refine x_istoren (pc := 81) dX12_namesNow_81 rfl (by decide) rfl ?_
         refine x_iinc (pc := 82) dX12_namesNow_82 rfl (by decide) rfl ?_
         refine x_goto (tgt := 47) (pc := 85) dX12_namesNow_85 (by decide) ?_
         exact ih (i + 1) _ (by omega) hor (by rw [if_pos (by omega)] at hV; exact hV))
    · skip
      refine x_iconst (pc := 66) dX12_namesNow_66 ?_
      refine x_aloadn (pc := 67) dX12_namesNow_67 rfl ?_
      refine x_getR (156) (pc := 68) dX12_namesNow_68 fl_X12_96 k_127 (hL 127 (by decide) (by decide)) (f_127_36 hF) ?_
      refine x_iloadn (pc := 71) dX12_namesNow_71 rfl ?_
      refine x_iald (i) (pc := 72) dX12_namesNow_72 k_156 (hL 156 (by decide) (by decide)) (⟨by omega, by omega, by decide⟩) ?_
      rw [hr]
      refine x_iconst (pc := 73) dX12_namesNow_73 ?_
      refine x_isub (pc := 74) dX12_namesNow_74 ?_
      refine x_ishl (pc := 75) dX12_namesNow_75 (x - 4) (by omega) (by omega) ?_
      rw [hp2]
      refine x_goto (tgt := 80) (pc := 76) dX12_namesNow_76 (by decide) ?_
      first
      | (refine x_iorN (pc := 80) dX12_namesNow_80 b 0 rfl rfl (by omega) ?_
         rw [Nat.or_zero]
         refine x_istoren (pc := 81) dX12_namesNow_81 rfl (by decide) rfl ?_
         refine x_iinc (pc := 82) dX12_namesNow_82 rfl (by decide) rfl ?_
         refine x_goto (tgt := 47) (pc := 85) dX12_namesNow_85 (by decide) ?_
         exact ih (i + 1) b (by omega) hb (by rw [if_neg (by omega)] at hV; exact hV))
      | (refine x_iorN (pc := 80) dX12_namesNow_80 b (2 ^ (x - 4)) rfl rfl (by omega) ?_
         refine x_istoren (pc := 81) dX12_namesNow_81 rfl (by decide) rfl ?_
         refine x_iinc (pc := 82) dX12_namesNow_82 rfl (by decide) rfl ?_
         refine x_goto (tgt := 47) (pc := 85) dX12_namesNow_85 (by decide) ?_
         exact ih (i + 1) _ (by omega) hor (by rw [if_pos (by omega)] at hV; exact hV))
theorem l_mo_nnA {G : Nat → Nat → Int} (hL : x_SL L) (hF : x_Fin xFL G) (h : mAB A B G) (hA : zb8 A) (hB : zb8 B) (hn : A.length ≤ 60 ∧ B.length ≤ 60) :
    ∀ (r i b : Nat), i + r = A.length → b < 16 → znf b (A.drop i) = znf 0 A → X mX12_namesNow 0 0 0 (qI L fun x G' => x = ((znm (A, B) : Nat) : Int) ∧ G' = G) 4 [some (vR 127), some (vI b), some (vI i)] [] L G 0 0 := by
  obtain ⟨h1, h2, h3, h4⟩ := id h
  intro r
  induction r with
  | zero =>
    intro i b hi hb hV
    have hi : i = A.length := by omega
    subst hi
    rw [List.drop_length] at hV
    have hV : b = znf 0 A := hV
    refine x_iloadn (pc := 4) dX12_namesNow_4 rfl ?_
    refine x_aloadn (pc := 5) dX12_namesNow_5 rfl ?_
    refine x_getI (pc := 6) dX12_namesNow_6 fl_X12_224 k_127 (hL 127 (by decide) (by decide)) ?_
    rw [h1]
    refine x_cge (tgt := 45) (pc := 9) dX12_namesNow_9 (by decide) (by omega) (fun c_9 => ?_) (fun c_9 => ?_)
    rotate_left
    · skip
      exact absurd c_9 (by omega)
    refine x_iconst (pc := 45) dX12_namesNow_45 ?_
    refine x_istoren (pc := 46) dX12_namesNow_46 rfl (by decide) rfl ?_
    exact l_mo_nnB hL hF h hB hn.2 B.length 0 b (Nat.zero_add _) hb (by rw [List.drop_zero, hV]; rfl)
  | succ r ih =>
    intro i b hi hb hV
    have hr := h3 i (by omega)
    have hv := zb8_at hA (show i < A.length by omega)
    rw [zdr_at (show i < A.length by omega), znf] at hV
    obtain ⟨x, hx⟩ : ∃ x, x = A.getD i 0 := ⟨_, rfl⟩
    rw [← hx] at hr hv hV
    have hp2 : (1 : Int) * 2 ^ (x - 4) = ((2 ^ (x - 4) : Nat) : Int) := by simp
    have hp3 : 2 ^ (x - 4) < 2 ^ 4 := Nat.pow_lt_pow_right (by decide) (by omega)
    have hor := Nat.or_lt_two_pow (n := 4) hb hp3
    refine x_iloadn (pc := 4) dX12_namesNow_4 rfl ?_
    refine x_aloadn (pc := 5) dX12_namesNow_5 rfl ?_
    refine x_getI (pc := 6) dX12_namesNow_6 fl_X12_224 k_127 (hL 127 (by decide) (by decide)) ?_
    rw [h1]
    refine x_cge (tgt := 45) (pc := 9) dX12_namesNow_9 (by decide) (by omega) (fun c_9 => ?_) (fun c_9 => ?_)
    · skip
      exact absurd c_9 (by omega)
    refine x_iloadn (pc := 12) dX12_namesNow_12 rfl ?_
    refine x_aloadn (pc := 13) dX12_namesNow_13 rfl ?_
    refine x_getR (155) (pc := 14) dX12_namesNow_14 fl_X12_93 k_127 (hL 127 (by decide) (by decide)) (f_127_35 hF) ?_
    refine x_iloadn (pc := 17) dX12_namesNow_17 rfl ?_
    refine x_iald (i) (pc := 18) dX12_namesNow_18 k_155 (hL 155 (by decide) (by decide)) (⟨by omega, by omega, by decide⟩) ?_
    rw [hr]
    refine x_iconst (pc := 19) dX12_namesNow_19 ?_
    refine x_cle (tgt := 36) (pc := 20) dX12_namesNow_20 (by decide) (by omega) (fun c_20 => ?_) (fun c_20 => ?_)
    · skip
      refine x_iconst (pc := 36) dX12_namesNow_36 ?_
      first
      | (refine x_iorN (pc := 37) dX12_namesNow_37 b 0 rfl rfl (by omega) ?_
         rw [Nat.or_zero]
         refine x_istoren (pc := 38) dX12_namesNow_38 rfl (by decide) rfl ?_
         refine x_iinc (pc := 39) dX12_namesNow_39 rfl (by decide) rfl ?_
         refine x_goto (tgt := 4) (pc := 42) dX12_namesNow_42 (by decide) ?_
         exact ih (i + 1) b (by omega) hb (by rw [if_neg (by omega)] at hV; exact hV))
      | (refine x_iorN (pc := 37) dX12_namesNow_37 b (2 ^ (x - 4)) rfl rfl (by omega) ?_
         refine x_istoren (pc := 38) dX12_namesNow_38 rfl (by decide) rfl ?_
         refine x_iinc (pc := 39) dX12_namesNow_39 rfl (by decide) rfl ?_
         refine x_goto (tgt := 4) (pc := 42) dX12_namesNow_42 (by decide) ?_
         exact ih (i + 1) _ (by omega) hor (by rw [if_pos (by omega)] at hV; exact hV))
    · skip
      refine x_iconst (pc := 23) dX12_namesNow_23 ?_
      refine x_aloadn (pc := 24) dX12_namesNow_24 rfl ?_
      refine x_getR (155) (pc := 25) dX12_namesNow_25 fl_X12_93 k_127 (hL 127 (by decide) (by decide)) (f_127_35 hF) ?_
      refine x_iloadn (pc := 28) dX12_namesNow_28 rfl ?_
      refine x_iald (i) (pc := 29) dX12_namesNow_29 k_155 (hL 155 (by decide) (by decide)) (⟨by omega, by omega, by decide⟩) ?_
      rw [hr]
      refine x_iconst (pc := 30) dX12_namesNow_30 ?_
      refine x_isub (pc := 31) dX12_namesNow_31 ?_
      refine x_ishl (pc := 32) dX12_namesNow_32 (x - 4) (by omega) (by omega) ?_
      rw [hp2]
      refine x_goto (tgt := 37) (pc := 33) dX12_namesNow_33 (by decide) ?_
      first
      | (refine x_iorN (pc := 37) dX12_namesNow_37 b 0 rfl rfl (by omega) ?_
         rw [Nat.or_zero]
         refine x_istoren (pc := 38) dX12_namesNow_38 rfl (by decide) rfl ?_
         refine x_iinc (pc := 39) dX12_namesNow_39 rfl (by decide) rfl ?_
         refine x_goto (tgt := 4) (pc := 42) dX12_namesNow_42 (by decide) ?_
         exact ih (i + 1) b (by omega) hb (by rw [if_neg (by omega)] at hV; exact hV))
      | (refine x_iorN (pc := 37) dX12_namesNow_37 b (2 ^ (x - 4)) rfl rfl (by omega) ?_
         refine x_istoren (pc := 38) dX12_namesNow_38 rfl (by decide) rfl ?_
         refine x_iinc (pc := 39) dX12_namesNow_39 rfl (by decide) rfl ?_
         refine x_goto (tgt := 4) (pc := 42) dX12_namesNow_42 (by decide) ?_
         exact ih (i + 1) _ (by omega) hor (by rw [if_pos (by omega)] at hV; exact hV))
theorem c_mo_namesNow {G : Nat → Nat → Int} (hL : x_SL L) (hF : x_Fin xFL G) (h : mAB A B G) (hA : zb8 A) (hB : zb8 B) (hn : A.length ≤ 60 ∧ B.length ≤ 60) :
    CM yX12_namesNow mX12_namesNow 0 0 0 [vR 127] L G (qI L fun x G' => x = ((znm (A, B) : Nat) : Int) ∧ G' = G) := by
  refine Ct.of_X (μ := mX12_namesNow) rfl rfl (by decide) (fun h => by cases h) (Nat.le_of_ble_eq_true rfl) rfl ?_
  refine x_iconst (pc := 0) dX12_namesNow_0 ?_
  refine x_istoren (pc := 1) dX12_namesNow_1 rfl (by decide) rfl ?_
  refine x_iconst (pc := 2) dX12_namesNow_2 ?_
  refine x_istoren (pc := 3) dX12_namesNow_3 rfl (by decide) rfl ?_
  exact l_mo_nnA hL hF h hA hB hn A.length 0 0 (Nat.zero_add _) (by decide) (by rw [List.drop_zero])
end XMS

