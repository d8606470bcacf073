/-! the class's equations -/
def FQ (S : List Nat) (lo hi : Nat) (G G' : Nat → Nat → Int) : Prop := ∀ i, i ∉ S → (i < lo ∨ hi ≤ i) → G' i = G i
theorem FQ.rf {S : List Nat} {lo hi : Nat} {G : Nat → Nat → Int} : FQ S lo hi G G := fun _ _ _ => rfl
theorem FQ.tr {S : List Nat} {lo hi : Nat} {G G1 G2 : Nat → Nat → Int} (h : FQ S lo hi G G1) (k : FQ S lo hi G1 G2) : FQ S lo hi G G2 := fun i a c => (k i a c).trans (h i a c)
theorem FR.q {S T : List Nat} {lo hi : Nat} {G G1 : Nat → Nat → Int} (h : FR S G G1) (k : ∀ i, i ∈ S → i ∈ T ∨ (lo ≤ i ∧ i < hi)) : FQ T lo hi G G1 := fun i a c => h i (fun q => (k i q).elim a (fun w => by omega))
theorem eq_fl : ∀ i, i < 8 → ((5, i, 6 + 5 * i) : Nat × Nat × Nat) ∈ xFL := by decide +kernel
theorem eq_sd {k : Nat} (h : k < 8) : xSd (6 + 5 * k) := Or.inl ⟨k, h, rfl⟩
def cEq (m : Nat) (S : Nat → Nat) (I : Nat → Nat → Nat) (G : Nat → Nat → Int) : Prop := G 4 1 = m ∧ m ≤ 4 ∧ ∀ q, q < 2 * m → cSd (6 + 5 * q) (S q) I q G
theorem cEq.FR {m : Nat} {S : Nat → Nat} {I : Nat → Nat → Nat} {T : List Nat} {G G' : Nat → Nat → Int} (h : cEq m S I G) (hR : FR T G G') (hT : ∀ i, i ∈ T → i < 4 ∨ 46 ≤ i) : cEq m S I G' := by
  obtain ⟨h1, h2, h3⟩ := h
  refine ⟨by rw [hR _ (fun q => by have := hT _ q; omega)]; exact h1, h2, fun q hq => (h3 q hq).FR hR (fun w => ?_) (fun w => ?_) (fun w => ?_)⟩ <;> (have := hT _ w; omega)
theorem c_Eq_length {m : Nat} {S : Nat → Nat} {I : Nat → Nat → Nat} {L : List Nat} {G : Nat → Nat → Int} (hL : x_SL L) (hE : cEq m S I G) :
    CM yX3_length mX3_length 0 0 0 [vR 4] L G (qI L fun x G' => x = m ∧ G' = G) := by
  refine Ct.of_X (μ := mX3_length) rfl rfl (by decide) (fun h => by cases h) (Nat.le_of_ble_eq_true rfl) rfl ?_
  refine x_aloadn (pc := 0) dX3_length_0 rfl ?_
  refine x_getI (pc := 1) dX3_length_1 fl_X3_17 k_4 (hL 4 (by decide) (by decide)) ?_
  refine x_rI (pc := 4) dX3_length_4 rfl ?_
  exact ⟨hE.1, rfl⟩
theorem c_Eq_has {m : Nat} {S : Nat → Nat} {I : Nat → Nat → Nat} {a : Int} {L : List Nat} {G : Nat → Nat → Int} (hL : x_SL L) (hE : cEq m S I G) (ha : -2147483648 ≤ a ∧ a < 2147483648) :
    CM yX3_has mX3_has 0 0 0 [vR 4, vI a] L G (qI L fun x G' => x = (if 0 ≤ a ∧ a < m then 1 else 0) ∧ G' = G) := by
  obtain ⟨h1, h2, h3⟩ := hE
  refine Ct.of_X (μ := mX3_has) rfl rfl (by decide) (fun h => by cases h) (Nat.le_of_ble_eq_true rfl) rfl ?_
  refine x_iloadn (pc := 0) dX3_has_0 rfl ?_
  refine x_ilt (tgt := 16) (pc := 1) dX3_has_1 (by decide) (by omega) (fun c_1 => ?_) (fun c_1 => ?_)
  · skip
    refine x_iconst (pc := 16) dX3_has_16 ?_
    refine x_rZ (pc := 17) dX3_has_17 rfl (by omega) ?_
    exact ⟨by split <;> omega, rfl⟩
  · skip
    refine x_iloadn (pc := 4) dX3_has_4 rfl ?_
    refine x_aloadn (pc := 5) dX3_has_5 rfl ?_
    refine x_getI (pc := 6) dX3_has_6 fl_X3_17 k_4 (hL 4 (by decide) (by decide)) ?_
    refine x_cge (tgt := 16) (pc := 9) dX3_has_9 (by decide) (by omega) (fun c_9 => ?_) (fun c_9 => ?_)
    · skip
      refine x_iconst (pc := 16) dX3_has_16 ?_
      refine x_rZ (pc := 17) dX3_has_17 rfl (by omega) ?_
      exact ⟨by split <;> omega, rfl⟩
    · skip
      refine x_iconst (pc := 12) dX3_has_12 ?_
      refine x_goto (tgt := 17) (pc := 13) dX3_has_13 (by decide) ?_
      refine x_rZ (pc := 17) dX3_has_17 rfl (by omega) ?_
      exact ⟨by split <;> omega, rfl⟩
theorem c_Eq_side {e s : Int} {k : Nat} {L : List Nat} {G : Nat → Nat → Int} (hL : x_SL L) (hF : x_Fin xFL G) (hk : 2 * e + s = k) (hk8 : k < 8) (he : -100 ≤ e ∧ e ≤ 100) (hs : -100 ≤ s ∧ s ≤ 100) :
    CM yX3_side mX3_side 0 0 0 [vR 4, vI e, vI s] L G (qR L fun q G' => q = 6 + 5 * k ∧ G' = G) := by
  refine Ct.of_X (μ := mX3_side) rfl rfl (by decide) (fun h => by cases h) (Nat.le_of_ble_eq_true rfl) rfl ?_
  refine x_iconst (pc := 0) dX3_side_0 ?_
  refine x_iloadn (pc := 1) dX3_side_1 rfl ?_
  refine x_imul (pc := 2) dX3_side_2 ?_
  refine x_iloadn (pc := 3) dX3_side_3 rfl ?_
  refine x_iadd (pc := 4) dX3_side_4 ?_
  refine x_istoren (pc := 5) dX3_side_5 rfl (by decide) rfl ?_
  refine x_iloadn (pc := 6) dX3_side_6 rfl ?_
  refine x_ilt (tgt := 28) (pc := 7) dX3_side_7 (by decide) (by omega) (fun c_7 => ?_) (fun c_7 => ?_)
  · skip
    exact absurd c_7 (by omega)
  refine x_iloadn (pc := 10) dX3_side_10 rfl ?_
  refine x_aloadn (pc := 11) dX3_side_11 rfl ?_
  refine x_getR (5) (pc := 12) dX3_side_12 fl_X3_11 k_4 (hL 4 (by decide) (by decide)) (f_4_0 hF) ?_
  refine x_alen (pc := 15) dX3_side_15 k_5 (by decide) (hL 5 (by decide) (by decide)) ?_
  refine x_cge (tgt := 28) (pc := 16) dX3_side_16 (by decide) (by omega) (fun c_16 => ?_) (fun c_16 => ?_)
  · skip
    exact absurd c_16 (by omega)
  refine x_aloadn (pc := 19) dX3_side_19 rfl ?_
  refine x_getR (5) (pc := 20) dX3_side_20 fl_X3_11 k_4 (hL 4 (by decide) (by decide)) (f_4_0 hF) ?_
  refine x_iloadn (pc := 23) dX3_side_23 rfl ?_
  refine x_aald (6 + 5 * k) (k) (pc := 24) dX3_side_24 k_5 (by decide) (hL 5 (by decide) (by decide)) (⟨by omega, by omega, by decide⟩) (hF _ (eq_fl k hk8)) ?_
  refine x_goto (tgt := 34) (pc := 25) dX3_side_25 (by decide) ?_
  refine x_rR (pc := 34) dX3_side_34 rfl ?_
  exact ⟨rfl, rfl⟩
theorem c_Eq_last {m s : Nat} {L : List Nat} {G : Nat → Nat → Int} (hL : x_SL L) (hF : x_Fin xFL G) (h1 : G 4 1 = m) (hm : 1 ≤ m ∧ m ≤ 4) (hs : s < 2) :
    CM yX3_last mX3_last 1 0 0 [vR 4, vI s] L G (qR L fun q G' => q = 6 + 5 * (2 * (m - 1) + s) ∧ G' = G) := by
  refine Ct.of_X (μ := mX3_last) rfl rfl (by decide) (fun h => by cases h) (Nat.le_of_ble_eq_true rfl) rfl ?_
  refine x_aloadn (pc := 0) dX3_last_0 rfl ?_
  refine x_aloadn (pc := 1) dX3_last_1 rfl ?_
  refine x_getI (pc := 2) dX3_last_2 fl_X3_17 k_4 (hL 4 (by decide) (by decide)) ?_
  refine x_iconst (pc := 5) dX3_last_5 ?_
  refine x_isub (pc := 6) dX3_last_6 ?_
  refine x_iloadn (pc := 7) dX3_last_7 rfl ?_
  refine x_cVR (pc := 8) dX3_last_8 lk_X3_32 (c_Eq_side (k := 2 * (m - 1) + s) hL hF (by omega) (by omega) (by omega) (by omega)) k_4 ⟨by decide, rfl⟩ (hL 4 (by decide) (by decide)) (⟨by decide, by decide⟩) (Nat.le_of_ble_eq_true rfl) rfl ?_
  rintro q G' ⟨rfl, rfl⟩
  refine x_rR (pc := 11) dX3_last_11 rfl ?_
  exact ⟨rfl, rfl⟩
theorem c_Eq_times {m e u : Nat} {S : Nat → Nat} {I : Nat → Nat → Nat} {L : List Nat} {G : Nat → Nat → Int} (hL : x_SL L) (hF : x_Fin xFL G) (hE : cEq m S I G) (he : e < m) (hu : u < 4) :
    CM yX3_times mX3_times 2 0 0 [vR 4, vI e, vI u] L G (qI L fun x G' => x = ((zct I (2 * e) u (S (2 * e)) + zct I (2 * e + 1) u (S (2 * e + 1)) : Nat) : Int) ∧ G' = G) := by
  obtain ⟨h1, h2, h3⟩ := hE
  refine Ct.of_X (μ := mX3_times) rfl rfl (by decide) (fun h => by cases h) (Nat.le_of_ble_eq_true rfl) rfl ?_
  refine x_aloadn (pc := 0) dX3_times_0 rfl ?_
  refine x_iloadn (pc := 1) dX3_times_1 rfl ?_
  refine x_iconst (pc := 2) dX3_times_2 ?_
  refine x_cVR (pc := 3) dX3_times_3 lk_X3_32 (c_Eq_side (k := 2 * e) hL hF (by omega) (by omega) (by omega) (by omega)) k_4 ⟨by decide, rfl⟩ (hL 4 (by decide) (by decide)) (⟨by decide, by decide⟩) (Nat.le_of_ble_eq_true rfl) rfl ?_
  rintro q G' ⟨rfl, rfl⟩
  refine x_iloadn (pc := 6) dX3_times_6 rfl ?_
  refine x_cVI (pc := 7) dX3_times_7 lk_X3_36 (c_Sd_timesOf (eq_sd (k := 2 * e) (by omega)) hL hF (h3 (2 * e) (by omega)) hu) (sd_k (eq_sd (k := 2 * e) (by omega))).1 ⟨by decide, rfl⟩ (sd_m (eq_sd (k := 2 * e) (by omega)) hL 0 (by decide)) (⟨by decide, by decide⟩) (Nat.le_of_ble_eq_true rfl) rfl ?_
  rintro x G' ⟨rfl, rfl⟩
  refine x_aloadn (pc := 10) dX3_times_10 rfl ?_
  refine x_iloadn (pc := 11) dX3_times_11 rfl ?_
  refine x_iconst (pc := 12) dX3_times_12 ?_
  refine x_cVR (pc := 13) dX3_times_13 lk_X3_32 (c_Eq_side (k := 2 * e + 1) hL hF (by omega) (by omega) (by omega) (by omega)) k_4 ⟨by decide, rfl⟩ (hL 4 (by decide) (by decide)) (⟨by decide, by decide⟩) (Nat.le_of_ble_eq_true rfl) rfl ?_
  rintro q G' ⟨rfl, rfl⟩
  refine x_iloadn (pc := 16) dX3_times_16 rfl ?_
  refine x_cVI (pc := 17) dX3_times_17 lk_X3_36 (c_Sd_timesOf (eq_sd (k := 2 * e + 1) (by omega)) hL hF (h3 (2 * e + 1) (by omega)) hu) (sd_k (eq_sd (k := 2 * e + 1) (by omega))).1 ⟨by decide, rfl⟩ (sd_m (eq_sd (k := 2 * e + 1) (by omega)) hL 0 (by decide)) (⟨by decide, by decide⟩) (Nat.le_of_ble_eq_true rfl) rfl ?_
  rintro x G' ⟨rfl, rfl⟩
  refine x_iadd (pc := 20) dX3_times_20 ?_
  refine x_rI (pc := 21) dX3_times_21 rfl ?_
  exact ⟨by omega, rfl⟩
theorem c_Eq_beginNext {m : Nat} {S : Nat → Nat} {I : Nat → Nat → Nat} {L : List Nat} {G : Nat → Nat → Int} (hL : x_SL L) (hF : x_Fin xFL G) (hE : cEq m S I G) (hm : m < 4) (hs1 : S (2 * m) = 0) (hs2 : S (2 * m + 1) = 0) :
    CM yX3_beginNext mX3_beginNext 2 0 0 [vR 4] L G (qV L fun G' => cEq (m + 1) S I G' ∧ FQ [4] 6 46 G G' ∧ x_Fin xFL G') := by
  obtain ⟨h1, h2, h3⟩ := hE
  refine Ct.of_X (μ := mX3_beginNext) rfl rfl (by decide) (fun h => by cases h) (Nat.le_of_ble_eq_true rfl) rfl ?_
  refine x_aloadn (pc := 0) dX3_beginNext_0 rfl ?_
  refine x_getI (pc := 1) dX3_beginNext_1 fl_X3_17 k_4 (hL 4 (by decide) (by decide)) ?_
  refine x_iconst (pc := 4) dX3_beginNext_4 ?_
  refine x_clt (tgt := 9) (pc := 5) dX3_beginNext_5 (by decide) (by omega) (fun c_5 => ?_) (fun c_5 => ?_)
  rotate_left
  · skip
    exact absurd c_5 (by omega)
  refine x_aloadn (pc := 9) dX3_beginNext_9 rfl ?_
  refine x_dup (pc := 10) dX3_beginNext_10 (fun h => by cases h) ?_
  refine x_getI (pc := 11) dX3_beginNext_11 fl_X3_17 k_4 (hL 4 (by decide) (by decide)) ?_
  refine x_iconst (pc := 14) dX3_beginNext_14 ?_
  refine x_iadd (pc := 15) dX3_beginNext_15 ?_
  refine x_putIF (pc := 16) dX3_beginNext_16 fp_X3_17 k_4 (hL 4 (by decide) (by decide)) hF (fun hF => ?_)
  refine x_aloadn (pc := 19) dX3_beginNext_19 rfl ?_
  refine x_iconst (pc := 20) dX3_beginNext_20 ?_
  refine x_cVR (pc := 21) dX3_beginNext_21 lk_X3_25 (c_Eq_last (m := m + 1) (s := 0) hL hF (by rw [x_up_s, h1]; rfl) (by omega) (by decide)) k_4 ⟨by decide, rfl⟩ (hL 4 (by decide) (by decide)) (⟨by decide, by decide⟩) (Nat.le_of_ble_eq_true rfl) rfl ?_
  rintro q G' ⟨rfl, hG⟩
  subst hG
  refine x_cVV (pc := 24) dX3_beginNext_24 lk_X3_29 (c_Sd_empty I (2 * m) (eq_sd (k := 2 * (m + 1 - 1) + 0) (by omega)) hL hF) (sd_k (eq_sd (k := 2 * (m + 1 - 1) + 0) (by omega))).1 ⟨by decide, rfl⟩ (sd_m (eq_sd (k := 2 * (m + 1 - 1) + 0) (by omega)) hL 0 (by decide)) (⟨by decide, by decide⟩) (Nat.le_of_ble_eq_true rfl) rfl ?_
  rintro G1 ⟨a1, a2, hF⟩
  refine x_aloadn (pc := 27) dX3_beginNext_27 rfl ?_
  refine x_iconst (pc := 28) dX3_beginNext_28 ?_
  refine x_cVR (pc := 29) dX3_beginNext_29 lk_X3_25 (c_Eq_last (m := m + 1) (s := 1) hL hF (by rw [a2 _ (by simp; omega), x_up_s, h1]; rfl) (by omega) (by decide)) k_4 ⟨by decide, rfl⟩ (hL 4 (by decide) (by decide)) (⟨by decide, by decide⟩) (Nat.le_of_ble_eq_true rfl) rfl ?_
  rintro q G' ⟨rfl, hG⟩
  subst hG
  refine x_cVV (pc := 32) dX3_beginNext_32 lk_X3_29 (c_Sd_empty I (2 * m + 1) (eq_sd (k := 2 * (m + 1 - 1) + 1) (by omega)) hL hF) (sd_k (eq_sd (k := 2 * (m + 1 - 1) + 1) (by omega))).1 ⟨by decide, rfl⟩ (sd_m (eq_sd (k := 2 * (m + 1 - 1) + 1) (by omega)) hL 0 (by decide)) (⟨by decide, by decide⟩) (Nat.le_of_ble_eq_true rfl) rfl ?_
  rintro G2 ⟨b1, b2, hF⟩
  refine x_rV (pc := 35) dX3_beginNext_35 rfl ?_
  have e0 : 6 + 5 * (2 * (m + 1 - 1) + 0) = 6 + 5 * (2 * m) := by omega
  have e1 : 6 + 5 * (2 * (m + 1 - 1) + 1) = 6 + 5 * (2 * m + 1) := by omega
  rw [e0] at a1 a2
  rw [e1] at b1 b2
  refine ⟨⟨?_, by omega, fun q hq => ?_⟩, ?_, hF⟩
  · rw [b2 _ (by simp; omega), a2 _ (by simp; omega), x_up_s, h1]; rfl
  · by_cases c : q = 2 * m + 1
    · subst c; rw [hs2]; exact b1
    · by_cases c2 : q = 2 * m
      · subst c2; rw [hs1]; exact a1.FR b2 (by simp; omega) (by simp; omega) (by simp; omega)
      · refine cSd.FR (cSd.FR (cSd.FR (h3 q (by omega)) (S := [4]) (FR.rf.up (by simp)) ?_ ?_ ?_) a2 ?_ ?_ ?_) b2 ?_ ?_ ?_ <;> (simp; omega)
  · exact FQ.tr (FQ.tr (FR.q (S := [4]) (FR.rf.up (by simp)) (by simp)) (a2.q (by simp; omega))) (b2.q (by simp; omega))
theorem c_Eq_begin {S : Nat → Nat} {I : Nat → Nat → Nat} {L : List Nat} {G : Nat → Nat → Int} (hL : x_SL L) (hF : x_Fin xFL G) (hs1 : S 0 = 0) (hs2 : S 1 = 0) :
    CM yX3_begin mX3_begin 3 0 0 [vR 4] L G (qV L fun G' => cEq 1 S I G' ∧ FQ [4] 6 46 G G' ∧ x_Fin xFL G') := by
  refine Ct.of_X (μ := mX3_begin) rfl rfl (by decide) (fun h => by cases h) (Nat.le_of_ble_eq_true rfl) rfl ?_
  refine x_aloadn (pc := 0) dX3_begin_0 rfl ?_
  refine x_iconst (pc := 1) dX3_begin_1 ?_
  refine x_putIF (pc := 2) dX3_begin_2 fp_X3_17 k_4 (hL 4 (by decide) (by decide)) hF (fun hF => ?_)
  refine x_aloadn (pc := 5) dX3_begin_5 rfl ?_
  refine x_cVV (pc := 6) dX3_begin_6 lk_X3_22 (c_Eq_beginNext (m := 0) (S := S) (I := I) hL hF ⟨x_up_s, by decide, fun q hq => absurd hq (by omega)⟩ (by decide) hs1 hs2) k_4 ⟨by decide, rfl⟩ (hL 4 (by decide) (by decide)) (⟨by decide, by decide⟩) (Nat.le_of_ble_eq_true rfl) rfl ?_
  rintro G' ⟨a1, a2, hF⟩
  refine x_rV (pc := 9) dX3_begin_9 rfl ?_
  exact ⟨a1, FQ.tr (FR.q (S := [4]) (FR.rf.up (by simp)) (by simp)) a2, hF⟩

