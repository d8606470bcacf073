/-! samples -/
def cSm (s : Nat) (sn : Nat → Nat) (sl : Nat → Nat → Nat) (G : Nat → Nat → Int) : Prop := G 88 4 = s ∧ s ≤ 6 ∧ ∀ i, i < s → G 96 i = sn i ∧ 1 ≤ sn i ∧ sn i ≤ 8 ∧ ∀ j, j < sn i → G (90 + i) j = sl i j ∧ sl i j < 3
def mSm (s : Nat) (sn : Nat → Nat) (sl : Nat → Nat → Nat) (G : Nat → Nat → Int) : Prop := G 127 17 = s ∧ s ≤ 6 ∧ ∀ i, i < s → G 141 i = sn i ∧ 1 ≤ sn i ∧ sn i ≤ 8 ∧ ∀ j, j < sn i → G 140 (8 * i + j) = sl i j ∧ sl i j < 3
theorem sw_fl : ∀ i, i < 6 → ((89, i, 90 + i) : Nat × Nat × Nat) ∈ xFL := by decide +kernel
theorem sw_k : ∀ i, i < 6 → xK (90 + i) = (13, 8) := by decide +kernel
theorem c_Sm_length {s : Nat} {L : List Nat} {G : Nat → Nat → Int} (hL : x_SL L) (h : G 88 4 = s) (hs : s ≤ 6) :
    CM yX7_length mX7_length 0 0 0 [vR 88] L G (qI L fun x G' => x = s ∧ G' = G) := by
  refine Ct.of_X (μ := mX7_length) rfl rfl (by decide) (fun h => by cases h) (Nat.le_of_ble_eq_true rfl) rfl ?_
  refine x_aloadn (pc := 0) dX7_length_0 rfl ?_
  refine x_getI (pc := 1) dX7_length_1 fl_X7_26 k_88 (hL 88 (by decide) (by decide)) ?_
  refine x_rI (pc := 4) dX7_length_4 rfl ?_
  exact ⟨h, rfl⟩
theorem c_Sm_isFull {s : Nat} {L : List Nat} {G : Nat → Nat → Int} (hL : x_SL L) (h : G 88 4 = s) (hs : s ≤ 6) :
    CM yX7_isFull mX7_isFull 0 0 0 [vR 88] L G (qI L fun x G' => x = (if s = 6 then 1 else 0) ∧ G' = G) := by
  refine Ct.of_X (μ := mX7_isFull) rfl rfl (by decide) (fun h => by cases h) (Nat.le_of_ble_eq_true rfl) rfl ?_
  refine x_aloadn (pc := 0) dX7_isFull_0 rfl ?_
  refine x_getI (pc := 1) dX7_isFull_1 fl_X7_26 k_88 (hL 88 (by decide) (by decide)) ?_
  refine x_bipush (pc := 4) dX7_isFull_4 (by decide) ?_
  refine x_clt (tgt := 13) (pc := 6) dX7_isFull_6 (by decide) (by omega) (fun c_6 => ?_) (fun c_6 => ?_)
  · skip
    refine x_iconst (pc := 13) dX7_isFull_13 ?_
    refine x_rZ (pc := 14) dX7_isFull_14 rfl (by omega) ?_
    exact ⟨by split <;> omega, rfl⟩
  · skip
    refine x_iconst (pc := 9) dX7_isFull_9 ?_
    refine x_goto (tgt := 14) (pc := 10) dX7_isFull_10 (by decide) ?_
    refine x_rZ (pc := 14) dX7_isFull_14 rfl (by omega) ?_
    exact ⟨by split <;> omega, rfl⟩
theorem c_Sm_empty {L : List Nat} {G : Nat → Nat → Int} (hL : x_SL L) (hF : x_Fin xFL G) :
    CM yX7_empty mX7_empty 0 0 0 [vR 88] L G (qV L fun G' => cSm 0 (fun _ => 0) (fun _ _ => 0) G' ∧ G' 88 6 = 0 ∧ FR [88] G G' ∧ x_Fin xFL G') := by
  refine Ct.of_X (μ := mX7_empty) rfl rfl (by decide) (fun h => by cases h) (Nat.le_of_ble_eq_true rfl) rfl ?_
  refine x_aloadn (pc := 0) dX7_empty_0 rfl ?_
  refine x_iconst (pc := 1) dX7_empty_1 ?_
  refine x_putIF (pc := 2) dX7_empty_2 fp_X7_26 k_88 (hL 88 (by decide) (by decide)) hF (fun hF => ?_)
  refine x_aloadn (pc := 5) dX7_empty_5 rfl ?_
  refine x_iconst (pc := 6) dX7_empty_6 ?_
  refine x_putZF (pc := 7) dX7_empty_7 fp_X7_33 k_88 (hL 88 (by decide) (by decide)) (by omega) hF (fun hF => ?_)
  refine x_rV (pc := 10) dX7_empty_10 rfl ?_
  exact ⟨⟨by rw [x_up_k (by decide)]; exact x_up_s, by decide, fun i hi => absurd hi (Nat.not_lt_zero i)⟩, x_up_s, (FR.rf.up (by decide)).up (by decide), hF⟩
theorem c_ts_clear {s : Nat} {sn : Nat → Nat} {sl : Nat → Nat → Nat} {L : List Nat} {G : Nat → Nat → Int} (hL : x_SL L) (hF : x_Fin xFL G) (hS : cSm s sn sl G) :
    CM yX11_clear mX11_clear 2 0 0 [vR 1] L G (qI L fun x G' => x = s ∧ cSm 0 (fun _ => 0) (fun _ _ => 0) G' ∧ G' 88 6 = 0 ∧ FR [88] G G' ∧ x_Fin xFL G') := by
  refine Ct.of_X (μ := mX11_clear) rfl rfl (by decide) (fun h => by cases h) (Nat.le_of_ble_eq_true rfl) rfl ?_
  refine x_aloadn (pc := 0) dX11_clear_0 rfl ?_
  refine x_getR (88) (pc := 1) dX11_clear_1 fl_X11_59 k_1 (hL 1 (by decide) (by decide)) (f_1_7 hF) ?_
  refine x_cVI (pc := 4) dX11_clear_4 lk_X11_230 (c_Sm_length hL hS.1 hS.2.1) k_88 ⟨by decide, rfl⟩ (hL 88 (by decide) (by decide)) (⟨by decide, by decide⟩) (Nat.le_of_ble_eq_true rfl) rfl ?_
  rintro x G' ⟨rfl, rfl⟩
  refine x_istoren (pc := 7) dX11_clear_7 rfl (by decide) rfl ?_
  refine x_aloadn (pc := 8) dX11_clear_8 rfl ?_
  refine x_getR (88) (pc := 9) dX11_clear_9 fl_X11_59 k_1 (hL 1 (by decide) (by decide)) (f_1_7 hF) ?_
  refine x_cVV (pc := 12) dX11_clear_12 lk_X11_231 (c_Sm_empty hL hF) k_88 ⟨by decide, rfl⟩ (hL 88 (by decide) (by decide)) (⟨by decide, by decide⟩) (Nat.le_of_ble_eq_true rfl) rfl ?_
  rintro G1 hG1
  refine x_iloadn (pc := 15) dX11_clear_15 rfl ?_
  refine x_rI (pc := 16) dX11_clear_16 rfl ?_
  exact ⟨rfl, hG1⟩
theorem c_mo_clear {s : Nat} {sn : Nat → Nat} {sl : Nat → Nat → Nat} {L : List Nat} {G : Nat → Nat → Int} (hL : x_SL L) (hF : x_Fin xFL G) (hS : mSm s sn sl G) :
    CM yX12_clear mX12_clear 0 0 0 [vR 127] L G (qI L fun x G' => x = s ∧ mSm 0 (fun _ => 0) (fun _ _ => 0) G' ∧ FM [] [17] G G' ∧ x_Fin xFL G') := by
  refine Ct.of_X (μ := mX12_clear) rfl rfl (by decide) (fun h => by cases h) (Nat.le_of_ble_eq_true rfl) rfl ?_
  refine x_aloadn (pc := 0) dX12_clear_0 rfl ?_
  refine x_getI (pc := 1) dX12_clear_1 fl_X12_349 k_127 (hL 127 (by decide) (by decide)) ?_
  refine x_istoren (pc := 4) dX12_clear_4 rfl (by decide) rfl ?_
  refine x_aloadn (pc := 5) dX12_clear_5 rfl ?_
  refine x_iconst (pc := 6) dX12_clear_6 ?_
  refine x_putIF (pc := 7) dX12_clear_7 fp_X12_349 k_127 (hL 127 (by decide) (by decide)) hF (fun hF => ?_)
  refine x_iloadn (pc := 10) dX12_clear_10 rfl ?_
  refine x_rI (pc := 11) dX12_clear_11 rfl ?_
  exact ⟨hS.1, ⟨x_up_s, by decide, fun i hi => absurd hi (Nat.not_lt_zero i)⟩, FM.rf.upF (by decide), hF⟩
theorem l_Sm_add {s n : Nat} {w : Int} {L : List Nat} {G0 : Nat → Nat → Int} (hL : x_SL L) (hs : s < 6) (hw : -2147483648 ≤ w ∧ w < 2147483648) (hn : n ≤ 8) :
    ∀ (k i : Nat) (G : Nat → Nat → Int), i + k = n → G 88 4 = s → G 96 s = n → (∀ j, j < i → G (90 + s) j = zlet w j) → (∀ j, j ≠ s → G 96 j = G0 96 j) → FR [88, 96, 90 + s] G0 G → x_Fin xFL G →
    X mX7_add 2 0 0 (qV L fun G' => G' 88 4 = ((s + 1 : Nat) : Int) ∧ G' 96 s = n ∧ (∀ j, j < n → G' (90 + s) j = zlet w j) ∧ (∀ j, j ≠ s → G' 96 j = G0 96 j) ∧ G' 88 6 = 0 ∧ FR [88, 96, 90 + s] G0 G' ∧ x_Fin xFL G') 31 [some (vR 88), some (vI w), some (vI n), some (vI i)] [] L G 0 0 := by
  have hk := sw_k s hs
  intro k
  induction k with
  | zero =>
    intro i G hi h1 h2 h3 h4 hR hF
    have hi : i = n := by omega
    subst hi
    refine x_iloadn (pc := 31) dX7_add_31 rfl ?_
    refine x_aloadn (pc := 32) dX7_add_32 rfl ?_
    refine x_getR (96) (pc := 33) dX7_add_33 fl_X7_16 k_88 (hL 88 (by decide) (by decide)) (f_88_1 hF) ?_
    refine x_aloadn (pc := 36) dX7_add_36 rfl ?_
    refine x_getI (pc := 37) dX7_add_37 fl_X7_26 k_88 (hL 88 (by decide) (by decide)) ?_
    refine x_iald (s) (pc := 40) dX7_add_40 k_96 (hL 96 (by decide) (by decide)) (⟨by omega, by omega, by decide⟩) ?_
    refine x_cge (tgt := 67) (pc := 41) dX7_add_41 (by decide) (by omega) (fun c_41 => ?_) (fun c_41 => ?_)
    rotate_left
    · skip
      exact absurd c_41 (by omega)
    refine x_aloadn (pc := 67) dX7_add_67 rfl ?_
    refine x_dup (pc := 68) dX7_add_68 (fun h => by cases h) ?_
    refine x_getI (pc := 69) dX7_add_69 fl_X7_26 k_88 (hL 88 (by decide) (by decide)) ?_
    refine x_iconst (pc := 72) dX7_add_72 ?_
    refine x_iadd (pc := 73) dX7_add_73 ?_
    refine x_putIF (pc := 74) dX7_add_74 fp_X7_26 k_88 (hL 88 (by decide) (by decide)) hF (fun hF => ?_)
    refine x_aloadn (pc := 77) dX7_add_77 rfl ?_
    refine x_iconst (pc := 78) dX7_add_78 ?_
    refine x_putZF (pc := 79) dX7_add_79 fp_X7_33 k_88 (hL 88 (by decide) (by decide)) (by omega) hF (fun hF => ?_)
    refine x_rV (pc := 82) dX7_add_82 rfl ?_
    refine ⟨by rw [x_up_k (by decide), x_up_s]; omega, by rw [x_up_ne (by decide), x_up_ne (by decide)]; exact h2, fun j hj => ?_, fun j hj => ?_, x_up_s, (hR.up (by simp)).up (by simp), hF⟩
    · rw [x_up_ne (by omega), x_up_ne (by omega)]; exact h3 j hj
    · rw [x_up_ne (by decide), x_up_ne (by decide)]; exact h4 j hj
  | succ k ih =>
    intro i G hi h1 h2 h3 h4 hR hF
    refine x_iloadn (pc := 31) dX7_add_31 rfl ?_
    refine x_aloadn (pc := 32) dX7_add_32 rfl ?_
    refine x_getR (96) (pc := 33) dX7_add_33 fl_X7_16 k_88 (hL 88 (by decide) (by decide)) (f_88_1 hF) ?_
    refine x_aloadn (pc := 36) dX7_add_36 rfl ?_
    refine x_getI (pc := 37) dX7_add_37 fl_X7_26 k_88 (hL 88 (by decide) (by decide)) ?_
    refine x_iald (s) (pc := 40) dX7_add_40 k_96 (hL 96 (by decide) (by decide)) (⟨by omega, by omega, by decide⟩) ?_
    refine x_cge (tgt := 67) (pc := 41) dX7_add_41 (by decide) (by omega) (fun c_41 => ?_) (fun c_41 => ?_)
    · skip
      exact absurd c_41 (by omega)
    refine x_aloadn (pc := 44) dX7_add_44 rfl ?_
    refine x_getR (89) (pc := 45) dX7_add_45 fl_X7_13 k_88 (hL 88 (by decide) (by decide)) (f_88_0 hF) ?_
    refine x_aloadn (pc := 48) dX7_add_48 rfl ?_
    refine x_getI (pc := 49) dX7_add_49 fl_X7_26 k_88 (hL 88 (by decide) (by decide)) ?_
    refine x_aald (90 + s) (s) (pc := 52) dX7_add_52 k_89 (by decide) (hL 89 (by decide) (by decide)) (⟨by omega, by omega, by decide⟩) (hF _ (sw_fl s hs)) ?_
    refine x_iloadn (pc := 53) dX7_add_53 rfl ?_
    refine x_iloadn (pc := 54) dX7_add_54 rfl ?_
    refine x_i2l (pc := 55) dX7_add_55 (by omega) ?_
    refine x_iloadn (pc := 56) dX7_add_56 rfl ?_
    refine x_cSNI (pc := 57) dX7_add_57 lk_X7_46 (c_ts_letterOf (by omega) (by omega)) (⟨by decide, by decide⟩) (Nat.le_of_ble_eq_true rfl) rfl ?_
    rintro x G' ⟨rfl, rfl⟩
    refine x_iastF (i) (pc := 60) dX7_add_60 hk (hL _ (by omega) (by omega)) (⟨by omega, by omega, by decide⟩) hF (fun hF => ?_)
    refine x_iinc (pc := 61) dX7_add_61 rfl (by decide) rfl ?_
    refine x_goto (tgt := 31) (pc := 64) dX7_add_64 (by decide) ?_
    refine ih (i + 1) _ (by omega) (by rw [x_up_ne (by omega)]; exact h1) (by rw [x_up_ne (by omega)]; exact h2) (fun j hj => ?_) (fun j hj => by rw [x_up_ne (by omega)]; exact h4 j hj) (hR.up (by simp)) hF
    by_cases c : j = i
    · subst c; exact x_up_s
    · rw [x_up_k c]; exact h3 j (by omega)
theorem c_Sm_add {s n : Nat} {w : Int} {L : List Nat} {G : Nat → Nat → Int} (hL : x_SL L) (hF : x_Fin xFL G) (h : G 88 4 = s) (hs : s < 6) (hw : -2147483648 ≤ w ∧ w < 2147483648) (hn : n ≤ 8) :
    CM yX7_add mX7_add 2 0 0 [vR 88, vI w, vI n] L G (qV L fun G' => G' 88 4 = ((s + 1 : Nat) : Int) ∧ G' 96 s = n ∧ (∀ j, j < n → G' (90 + s) j = zlet w j) ∧ (∀ j, j ≠ s → G' 96 j = G 96 j) ∧ G' 88 6 = 0 ∧ FR [88, 96, 90 + s] G G' ∧ x_Fin xFL G') := by
  refine Ct.of_X (μ := mX7_add) rfl rfl (by decide) (fun h => by cases h) (Nat.le_of_ble_eq_true rfl) rfl ?_
  refine x_aloadn (pc := 0) dX7_add_0 rfl ?_
  refine x_getI (pc := 1) dX7_add_1 fl_X7_26 k_88 (hL 88 (by decide) (by decide)) ?_
  refine x_bipush (pc := 4) dX7_add_4 (by decide) ?_
  refine x_clt (tgt := 10) (pc := 6) dX7_add_6 (by decide) (by omega) (fun c_6 => ?_) (fun c_6 => ?_)
  rotate_left
  · skip
    exact absurd c_6 (by omega)
  refine x_aloadn (pc := 10) dX7_add_10 rfl ?_
  refine x_getR (96) (pc := 11) dX7_add_11 fl_X7_16 k_88 (hL 88 (by decide) (by decide)) (f_88_1 hF) ?_
  refine x_aloadn (pc := 14) dX7_add_14 rfl ?_
  refine x_getI (pc := 15) dX7_add_15 fl_X7_26 k_88 (hL 88 (by decide) (by decide)) ?_
  refine x_iconst (pc := 18) dX7_add_18 ?_
  refine x_iloadn (pc := 19) dX7_add_19 rfl ?_
  refine x_bipush (pc := 20) dX7_add_20 (by decide) ?_
  refine x_mmin (pc := 22) dX7_add_22 lk_X7_37 (by omega) (Nat.le_of_ble_eq_true rfl) (by omega) ?_
  refine x_mmax (pc := 25) dX7_add_25 lk_X7_43 (by omega) (Nat.le_of_ble_eq_true rfl) (by omega) ?_
  have em : max (0 : Int) (min (n : Int) 8) = n := by omega
  rw [em]
  refine x_iastF (s) (pc := 28) dX7_add_28 k_96 (hL 96 (by decide) (by decide)) (⟨by omega, by omega, by decide⟩) hF (fun hF => ?_)
  refine x_iconst (pc := 29) dX7_add_29 ?_
  refine x_istoren (pc := 30) dX7_add_30 rfl (by decide) rfl ?_
  exact l_Sm_add hL hs hw hn n 0 _ (by omega) (by rw [x_up_ne (by omega)]; exact h) x_up_s (fun j hj => absurd hj (Nat.not_lt_zero j)) (fun j hj => x_up_k hj) (FR.rf.up (by simp)) hF
theorem c_ts_sample {s : Nat} {sn : Nat → Nat} {sl : Nat → Nat → Nat} {w n : Int} {L : List Nat} {G : Nat → Nat → Int} (hL : x_SL L) (hF : x_Fin xFL G) (hS : cSm s sn sl G) (hw : -2147483648 ≤ w ∧ w < 2147483648) (hn : -2147483648 ≤ n ∧ n < 2147483648) :
    CM yX11_sample mX11_sample 3 0 0 [vR 1, vI w, vI n] L G (qI L fun x G' => (¬ (1 ≤ n ∧ n ≤ 8 ∧ zgood w n.toNat) ∧ x = -3 ∧ G' = G) ∨ ((1 ≤ n ∧ n ≤ 8 ∧ zgood w n.toNat) ∧ s = 6 ∧ x = -5 ∧ G' = G) ∨ ((1 ≤ n ∧ n ≤ 8 ∧ zgood w n.toNat) ∧ s < 6 ∧ x = ((s + 1 : Nat) : Int) ∧ cSm (s + 1) (zup sn s n.toNat) (zup sl s (zln w)) G' ∧ G' 88 6 = 0 ∧ FQ [] 88 99 G G' ∧ x_Fin xFL G')) := by
  obtain ⟨s1, s2, s3⟩ := hS
  refine Ct.of_X (μ := mX11_sample) rfl rfl (by decide) (fun h => by cases h) (Nat.le_of_ble_eq_true rfl) rfl ?_
  refine x_iloadn (pc := 0) dX11_sample_0 rfl ?_
  refine x_iconst (pc := 1) dX11_sample_1 ?_
  refine x_clt (tgt := 20) (pc := 2) dX11_sample_2 (by decide) (by omega) (fun c_2 => ?_) (fun c_2 => ?_)
  · skip
    refine x_bipush (pc := 20) dX11_sample_20 (by decide) ?_
    refine x_rI (pc := 22) dX11_sample_22 rfl ?_
    refine Or.inl ⟨?_, rfl, rfl⟩
    intro q
    first | omega | (rcases hx with hx | hx; omega; exact hx.2 q.2.2)
  · skip
    refine x_iloadn (pc := 5) dX11_sample_5 rfl ?_
    refine x_bipush (pc := 6) dX11_sample_6 (by decide) ?_
    refine x_cgt (tgt := 20) (pc := 8) dX11_sample_8 (by decide) (by omega) (fun c_8 => ?_) (fun c_8 => ?_)
    · skip
      refine x_bipush (pc := 20) dX11_sample_20 (by decide) ?_
      refine x_rI (pc := 22) dX11_sample_22 rfl ?_
      refine Or.inl ⟨?_, rfl, rfl⟩
      intro q
      first | omega | (rcases hx with hx | hx; omega; exact hx.2 q.2.2)
    · skip
      refine x_iloadn (pc := 11) dX11_sample_11 rfl ?_
      refine x_i2l (pc := 12) dX11_sample_12 (by omega) ?_
      refine x_iloadn (pc := 13) dX11_sample_13 rfl ?_
      refine x_cSI (pc := 14) dX11_sample_14 lk_X11_128 (c_ts_hasNo (w := w) (by omega) (by omega)) (⟨by decide, by decide⟩) (Nat.le_of_ble_eq_true rfl) rfl ?_
      rintro x G' ⟨hx, hG⟩
      subst hG
      refine x_ieq (tgt := 23) (pc := 17) dX11_sample_17 (by decide) (by omega) (fun c_17 => ?_) (fun c_17 => ?_)
      · skip
        have g1 : zgood w n.toNat := by rcases hx with hx | hx; exact hx.2; omega
        obtain ⟨n, rfl⟩ : ∃ j : Nat, n = j := ⟨n.toNat, by omega⟩
        refine x_aloadn (pc := 23) dX11_sample_23 rfl ?_
        refine x_getR (88) (pc := 24) dX11_sample_24 fl_X11_59 k_1 (hL 1 (by decide) (by decide)) (f_1_7 hF) ?_
        refine x_cVI (pc := 27) dX11_sample_27 lk_X11_224 (c_Sm_isFull hL s1 s2) k_88 ⟨by decide, rfl⟩ (hL 88 (by decide) (by decide)) (⟨by decide, by decide⟩) (Nat.le_of_ble_eq_true rfl) rfl ?_
        rintro x G' ⟨rfl, rfl⟩
        refine x_ieq (tgt := 36) (pc := 30) dX11_sample_30 (by decide) (by split <;> omega) (fun cf => ?_) (fun cf => ?_)
        · skip
          have g2 : s < 6 := by split at cf <;> omega
          refine x_aloadn (pc := 36) dX11_sample_36 rfl ?_
          refine x_getR (88) (pc := 37) dX11_sample_37 fl_X11_59 k_1 (hL 1 (by decide) (by decide)) (f_1_7 hF) ?_
          refine x_iloadn (pc := 40) dX11_sample_40 rfl ?_
          refine x_iloadn (pc := 41) dX11_sample_41 rfl ?_
          refine x_cVV (pc := 42) dX11_sample_42 lk_X11_227 (c_Sm_add hL hF s1 g2 hw (by omega)) k_88 ⟨by decide, rfl⟩ (hL 88 (by decide) (by decide)) (⟨by decide, by decide⟩) (Nat.le_of_ble_eq_true rfl) rfl ?_
          rintro G1 ⟨a1, a2, a3, a4, a5, a6, hF⟩
          refine x_aloadn (pc := 45) dX11_sample_45 rfl ?_
          refine x_getR (88) (pc := 46) dX11_sample_46 fl_X11_59 k_1 (hL 1 (by decide) (by decide)) (f_1_7 hF) ?_
          refine x_cVI (pc := 49) dX11_sample_49 lk_X11_230 (c_Sm_length hL a1 (by omega)) k_88 ⟨by decide, rfl⟩ (hL 88 (by decide) (by decide)) (⟨by decide, by decide⟩) (Nat.le_of_ble_eq_true rfl) rfl ?_
          rintro x G' ⟨rfl, rfl⟩
          refine x_rI (pc := 52) dX11_sample_52 rfl ?_
          refine Or.inr (Or.inr ⟨⟨by omega, by omega, g1⟩, g2, rfl, ⟨a1, by omega, fun i hi => ?_⟩, a5, a6.q (by simp <;> omega), hF⟩)
          rw [Int.toNat_natCast]
          by_cases c : i = s
          · subst c
            rw [zup_s, zup_s]
            refine ⟨a2, by omega, by omega, fun j hj => ?_⟩
            have := g1 j (by omega)
            have := zlet_bd w j
            exact ⟨by rw [a3 j hj]; exact zln_eq w j, by unfold zln; omega⟩
          · rw [zup_n c, zup_n c, a4 i c, a6 (90 + i) (by simp <;> omega)]
            exact s3 i (by omega)
        · skip
          refine x_bipush (pc := 33) dX11_sample_33 (by decide) ?_
          refine x_rI (pc := 35) dX11_sample_35 rfl ?_
          exact Or.inr (Or.inl ⟨⟨by omega, by omega, g1⟩, by split at cf <;> omega, rfl, rfl⟩)
      · skip
        refine x_bipush (pc := 20) dX11_sample_20 (by decide) ?_
        refine x_rI (pc := 22) dX11_sample_22 rfl ?_
        refine Or.inl ⟨?_, rfl, rfl⟩
        intro q
        first | omega | (rcases hx with hx | hx; omega; exact hx.2 q.2.2)

