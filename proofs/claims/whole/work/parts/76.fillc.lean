/-! the class: lengths laid, rows of nodes spread -/
def cFL (z : Nat → Nat) (G : Nat → Nat → Int) : Prop := G 55 6 = ((3 + zbg z 4 : Nat) : Int) ∧ ∀ u, u < 4 → G 59 u = z u ∧ G 60 u = ((3 + zbg z u : Nat) : Int) ∧ z u ≤ 8
def zc4 (z : Nat → Nat) : Nat := 4096 * z 0 + 256 * z 1 + 16 * z 2 + z 3
theorem zc4_at {z : Nat → Nat} (hz : ∀ u, u < 4 → z u ≤ 8) {u : Nat} (hu : u < 4) : ((zc4 z : Nat) : Int) / 2 ^ (12 - 4 * u) % 16 = z u := by
  have z0 := hz 0 (by decide)
  have z1 := hz 1 (by decide)
  have z2 := hz 2 (by decide)
  have z3 := hz 3 (by decide)
  unfold zc4
  rcases (show u = 0 ∨ u = 1 ∨ u = 2 ∨ u = 3 by omega) with rfl | rfl | rfl | rfl
  · show _ / (2 : Int) ^ 12 % 16 = _
    rw [show (2 : Int) ^ 12 = 4096 by decide]; omega
  · show _ / (2 : Int) ^ 8 % 16 = _
    rw [show (2 : Int) ^ 8 = 256 by decide]; omega
  · show _ / (2 : Int) ^ 4 % 16 = _
    rw [show (2 : Int) ^ 4 = 16 by decide]; omega
  · show _ / (2 : Int) ^ 0 % 16 = _
    rw [show (2 : Int) ^ 0 = 1 by decide]; omega
section XFI
variable {m : Nat} {S : Nat → Nat} {I : Nat → Nat → Nat} {z lo hi mk : Nat → Nat} {L : List Nat}
abbrev zlayS : List Nat := [55, 59, 60]
theorem l_fi_lay {G0 : Nat → Nat → Int} (hL : x_SL L) (hz : ∀ u, u < 4 → z u ≤ 8) :
    ∀ (r u : Nat) (G : Nat → Nat → Int), u + r = 4 → G 55 6 = ((3 + zbg z u : Nat) : Int) → (∀ v, v < u → G 59 v = z v ∧ G 60 v = ((3 + zbg z v : Nat) : Int)) → FR zlayS G0 G → x_Fin xFL G →
    X mX4_lay 1 0 0 (qV L fun G' => cFL z G' ∧ FR zlayS G0 G' ∧ x_Fin xFL G') 7 [some (vR 55), some (vI (zc4 z)), some (vI u)] [] L G 0 0 := by
  have hc : zc4 z < 65536 := by
    have := hz 0 (by decide); have := hz 1 (by decide); have := hz 2 (by decide); have := hz 3 (by decide)
    unfold zc4; omega
  intro r
  induction r with
  | zero =>
    intro u G hu h1 h2 hQ hF
    have hu : u = 4 := by omega
    subst hu
    refine x_iloadn (pc := 7) dX4_lay_7 rfl ?_
    refine x_iconst (pc := 8) dX4_lay_8 ?_
    refine x_cge (tgt := 65) (pc := 9) dX4_lay_9 (by decide) (by omega) (fun c_9 => ?_) (fun c_9 => ?_)
    rotate_left
    · skip
      exact absurd c_9 (by decide)
    refine x_rV (pc := 65) dX4_lay_65 rfl ?_
    exact ⟨⟨h1, fun u hu => ⟨(h2 u hu).1, (h2 u hu).2, hz u hu⟩⟩, hQ, hF⟩
  | succ r ih =>
    intro u G hu h1 h2 hQ hF
    have hzu := hz u (by omega)
    have hat := zc4_at hz (show u < 4 by omega)
    have hbs : zbg z (u + 1) = zbg z u + z u := rfl
    have hbb := zbg_4 hz u (by omega)
    refine x_iloadn (pc := 7) dX4_lay_7 rfl ?_
    refine x_iconst (pc := 8) dX4_lay_8 ?_
    refine x_cge (tgt := 65) (pc := 9) dX4_lay_9 (by decide) (by omega) (fun c_9 => ?_) (fun c_9 => ?_)
    · skip
      exact absurd c_9 (by omega)
    refine x_aloadn (pc := 12) dX4_lay_12 rfl ?_
    refine x_getR (59) (pc := 13) dX4_lay_13 fl_X4_18 k_55 (hL 55 (by decide) (by decide)) (f_55_1 hF) ?_
    refine x_iloadn (pc := 16) dX4_lay_16 rfl ?_
    refine x_iloadn (pc := 17) dX4_lay_17 rfl ?_
    refine x_bipush (pc := 18) dX4_lay_18 (by decide) ?_
    refine x_iconst (pc := 20) dX4_lay_20 ?_
    refine x_iloadn (pc := 21) dX4_lay_21 rfl ?_
    refine x_imul (pc := 22) dX4_lay_22 ?_
    refine x_isub (pc := 23) dX4_lay_23 ?_
    refine x_ishr (pc := 24) dX4_lay_24 (12 - 4 * u) (by omega) (by omega) (by omega) ?_
    refine x_bipush (pc := 25) dX4_lay_25 (by decide) ?_
    refine x_iandm (pc := 27) dX4_lay_27 4 16 (by decide) (by decide) (by decide) ?_
    rw [hat]
    refine x_bipush (pc := 28) dX4_lay_28 (by decide) ?_
    refine x_mmin (pc := 30) dX4_lay_30 lk_X4_38 (by omega) (Nat.le_of_ble_eq_true rfl) (by omega) ?_
    rw [show min ((z u : Nat) : Int) 8 = (z u : Nat) by omega]
    refine x_iastF (u) (pc := 33) dX4_lay_33 k_59 (hL 59 (by decide) (by decide)) (⟨by omega, by omega, by decide⟩) hF (fun hF => ?_)
    refine x_aloadn (pc := 34) dX4_lay_34 rfl ?_
    refine x_getR (60) (pc := 35) dX4_lay_35 fl_X4_22 k_55 (hL 55 (by decide) (by decide)) (f_55_2 hF) ?_
    refine x_iloadn (pc := 38) dX4_lay_38 rfl ?_
    refine x_aloadn (pc := 39) dX4_lay_39 rfl ?_
    refine x_getI (pc := 40) dX4_lay_40 fl_X4_34 k_55 (hL 55 (by decide) (by decide)) ?_
    refine x_iastF (u) (pc := 43) dX4_lay_43 k_60 (hL 60 (by decide) (by decide)) (⟨by omega, by omega, by decide⟩) hF (fun hF => ?_)
    refine x_aloadn (pc := 44) dX4_lay_44 rfl ?_
    refine x_dup (pc := 45) dX4_lay_45 (fun h => by cases h) ?_
    refine x_getI (pc := 46) dX4_lay_46 fl_X4_34 k_55 (hL 55 (by decide) (by decide)) ?_
    refine x_aloadn (pc := 49) dX4_lay_49 rfl ?_
    refine x_getR (59) (pc := 50) dX4_lay_50 fl_X4_18 k_55 (hL 55 (by decide) (by decide)) (f_55_1 hF) ?_
    refine x_iloadn (pc := 53) dX4_lay_53 rfl ?_
    refine x_iald (u) (pc := 54) dX4_lay_54 k_59 (hL 59 (by decide) (by decide)) (⟨by omega, by omega, by decide⟩) ?_
    rw [x_up_ne (by decide), x_up_s]
    refine x_iadd (pc := 55) dX4_lay_55 ?_
    refine x_putIF (pc := 56) dX4_lay_56 fp_X4_34 k_55 (hL 55 (by decide) (by decide)) hF (fun hF => ?_)
    refine x_iinc (pc := 59) dX4_lay_59 rfl (by decide) rfl ?_
    refine x_goto (tgt := 7) (pc := 62) dX4_lay_62 (by decide) ?_
    refine ih (u + 1) _ (by omega) (by rw [x_up_s, x_up_ne (by decide), x_up_ne (by decide), h1]; omega) (fun v hv => ?_) (((hQ.up (by decide)).up (by decide)).up (by decide)) hF
    by_cases e : v = u
    · subst e
      exact ⟨by simp [x_up], by simp [x_up]; omega⟩
    · have h2v := h2 v (by omega)
      exact ⟨by simp [x_up, e]; exact h2v.1, by simp [x_up, e]; omega⟩
theorem c_fi_lay {G : Nat → Nat → Int} (hL : x_SL L) (hF : x_Fin xFL G) (hz : ∀ u, u < 4 → z u ≤ 8) :
    CM yX4_lay mX4_lay 1 0 0 [vR 55, vI (zc4 z)] L G (qV L fun G' => cFL z G' ∧ FR zlayS G G' ∧ x_Fin xFL G') := by
  refine Ct.of_X (μ := mX4_lay) rfl rfl (by decide) (fun h => by cases h) (Nat.le_of_ble_eq_true rfl) rfl ?_
  refine x_aloadn (pc := 0) dX4_lay_0 rfl ?_
  refine x_iconst (pc := 1) dX4_lay_1 ?_
  refine x_putIF (pc := 2) dX4_lay_2 fp_X4_34 k_55 (hL 55 (by decide) (by decide)) hF (fun hF => ?_)
  refine x_iconst (pc := 5) dX4_lay_5 ?_
  refine x_istoren (pc := 6) dX4_lay_6 rfl (by decide) rfl ?_
  exact l_fi_lay hL hz 4 0 _ (by omega) x_up_s (fun v hv => absurd hv (Nat.not_lt_zero v)) (FR.rf.up (by decide)) hF
theorem zof_96 {q n : Nat} (hz : ∀ u, u < 4 → z u ≤ 8) (hV : ∀ j, j < n → zV (I q j)) : ∀ k, k ≤ n → yof I q z k ≤ 8 * k
  | 0, _ => Nat.le_refl _
  | k + 1, hk => by
    have := zof_96 hz hV k (by omega)
    rw [yof]
    by_cases c : I q k < 4
    · rw [if_pos c]; omega
    · rw [if_neg c]
      have := hz (I q k - 4) (by have := (hV k (by omega)).1; omega)
      omega
theorem c_Sd_lengthBy {r n q : Nat} {G : Nat → Nat → Int} (h : xSd r) (hL : x_SL L) (hF : x_Fin xFL G) (hS : cSd r n I q G) (hz : ∀ u, u < 4 → z u ≤ 8) :
    CM yX8_lengthBy mX8_lengthBy 0 0 0 [vR r, vI (z 0), vI (z 1), vI (z 2), vI (z 3)] L G (qI L fun x G' => x = yof I q z n ∧ G' = G) := by
  obtain ⟨s1, s2, s3, s4, s5⟩ := id hS
  have e := zof_sum (I := I) (q := q) (p := z) n (fun j hj => (s3 j hj).2)
  have t0 := s4 0 (by decide)
  have t1 := s4 1 (by decide)
  have t2 := s4 2 (by decide)
  have t3 := s4 3 (by decide)
  refine Ct.of_X (μ := mX8_lengthBy) rfl rfl (by decide) (fun h => by cases h) (Nat.le_of_ble_eq_true rfl) rfl ?_
  refine x_aloadn (pc := 0) dX8_lengthBy_0 rfl ?_
  refine x_getI (pc := 1) dX8_lengthBy_1 fl_X8_28 (sd_k h).1 (sd_m h hL 0 (by decide)) ?_
  refine x_aloadn (pc := 4) dX8_lengthBy_4 rfl ?_
  refine x_getR (r + 2) (pc := 5) dX8_lengthBy_5 fl_X8_15 (sd_k h).1 (sd_m h hL 0 (by decide)) (sd_f1 h hF) ?_
  refine x_iconst (pc := 8) dX8_lengthBy_8 ?_
  refine x_iald 0 (pc := 9) dX8_lengthBy_9 (sd_k h).2.2.1 (sd_m h hL 2 (by decide)) (by decide) ?_
  refine x_iloadn (pc := 10) dX8_lengthBy_10 rfl ?_
  refine x_imul (pc := 11) dX8_lengthBy_11 ?_
  refine x_iadd (pc := 12) dX8_lengthBy_12 ?_
  refine x_aloadn (pc := 13) dX8_lengthBy_13 rfl ?_
  refine x_getR (r + 2) (pc := 14) dX8_lengthBy_14 fl_X8_15 (sd_k h).1 (sd_m h hL 0 (by decide)) (sd_f1 h hF) ?_
  refine x_iconst (pc := 17) dX8_lengthBy_17 ?_
  refine x_iald 1 (pc := 18) dX8_lengthBy_18 (sd_k h).2.2.1 (sd_m h hL 2 (by decide)) (by decide) ?_
  refine x_iloadn (pc := 19) dX8_lengthBy_19 rfl ?_
  refine x_imul (pc := 20) dX8_lengthBy_20 ?_
  refine x_iadd (pc := 21) dX8_lengthBy_21 ?_
  refine x_aloadn (pc := 22) dX8_lengthBy_22 rfl ?_
  refine x_getR (r + 2) (pc := 23) dX8_lengthBy_23 fl_X8_15 (sd_k h).1 (sd_m h hL 0 (by decide)) (sd_f1 h hF) ?_
  refine x_iconst (pc := 26) dX8_lengthBy_26 ?_
  refine x_iald 2 (pc := 27) dX8_lengthBy_27 (sd_k h).2.2.1 (sd_m h hL 2 (by decide)) (by decide) ?_
  refine x_iloadn (pc := 28) dX8_lengthBy_28 rfl ?_
  refine x_imul (pc := 29) dX8_lengthBy_29 ?_
  refine x_iadd (pc := 30) dX8_lengthBy_30 ?_
  refine x_aloadn (pc := 31) dX8_lengthBy_31 rfl ?_
  refine x_getR (r + 2) (pc := 32) dX8_lengthBy_32 fl_X8_15 (sd_k h).1 (sd_m h hL 0 (by decide)) (sd_f1 h hF) ?_
  refine x_iconst (pc := 35) dX8_lengthBy_35 ?_
  refine x_iald 3 (pc := 36) dX8_lengthBy_36 (sd_k h).2.2.1 (sd_m h hL 2 (by decide)) (by decide) ?_
  refine x_iload (pc := 37) dX8_lengthBy_37 rfl ?_
  refine x_imul (pc := 39) dX8_lengthBy_39 ?_
  refine x_iadd (pc := 40) dX8_lengthBy_40 ?_
  refine x_rI (pc := 41) dX8_lengthBy_41 rfl ?_
  refine ⟨?_, rfl⟩
  rw [e, s5]
  rw [t0, t1, t2, t3, Int.mul_comm _ ((z 0 : Nat) : Int), Int.mul_comm _ ((z 1 : Nat) : Int), Int.mul_comm _ ((z 2 : Nat) : Int), Int.mul_comm _ ((z 3 : Nat) : Int)]
  rfl
theorem c_fi_lengthOf {r n q : Nat} {G : Nat → Nat → Int} (h : xSd r) (hL : x_SL L) (hF : x_Fin xFL G) (hS : cSd r n I q G) (hz : cFL z G) :
    CM yX4_lengthOf mX4_lengthOf 1 0 0 [vR 55, vR r] L G (qI L fun x G' => x = yof I q z n ∧ G' = G) := by
  refine Ct.of_X (μ := mX4_lengthOf) rfl rfl (by decide) (fun h => by cases h) (Nat.le_of_ble_eq_true rfl) rfl ?_
  refine x_aloadn (pc := 0) dX4_lengthOf_0 rfl ?_
  refine x_aloadn (pc := 1) dX4_lengthOf_1 rfl ?_
  refine x_getR (59) (pc := 2) dX4_lengthOf_2 fl_X4_18 k_55 (hL 55 (by decide) (by decide)) (f_55_1 hF) ?_
  refine x_iconst (pc := 5) dX4_lengthOf_5 ?_
  refine x_iald 0 (pc := 6) dX4_lengthOf_6 k_59 (hL 59 (by decide) (by decide)) (by decide) ?_
  rw [(hz.2 0 (by decide)).1]
  refine x_aloadn (pc := 7) dX4_lengthOf_7 rfl ?_
  refine x_getR (59) (pc := 8) dX4_lengthOf_8 fl_X4_18 k_55 (hL 55 (by decide) (by decide)) (f_55_1 hF) ?_
  refine x_iconst (pc := 11) dX4_lengthOf_11 ?_
  refine x_iald 1 (pc := 12) dX4_lengthOf_12 k_59 (hL 59 (by decide) (by decide)) (by decide) ?_
  rw [(hz.2 1 (by decide)).1]
  refine x_aloadn (pc := 13) dX4_lengthOf_13 rfl ?_
  refine x_getR (59) (pc := 14) dX4_lengthOf_14 fl_X4_18 k_55 (hL 55 (by decide) (by decide)) (f_55_1 hF) ?_
  refine x_iconst (pc := 17) dX4_lengthOf_17 ?_
  refine x_iald 2 (pc := 18) dX4_lengthOf_18 k_59 (hL 59 (by decide) (by decide)) (by decide) ?_
  rw [(hz.2 2 (by decide)).1]
  refine x_aloadn (pc := 19) dX4_lengthOf_19 rfl ?_
  refine x_getR (59) (pc := 20) dX4_lengthOf_20 fl_X4_18 k_55 (hL 55 (by decide) (by decide)) (f_55_1 hF) ?_
  refine x_iconst (pc := 23) dX4_lengthOf_23 ?_
  refine x_iald 3 (pc := 24) dX4_lengthOf_24 k_59 (hL 59 (by decide) (by decide)) (by decide) ?_
  rw [(hz.2 3 (by decide)).1]
  refine x_cVI (pc := 25) dX4_lengthOf_25 lk_X4_70 (c_Sd_lengthBy h hL hF hS (fun u hu => (hz.2 u hu).2.2)) (sd_k h).1 ⟨by decide, rfl⟩ (sd_m h hL 0 (by decide)) (⟨by decide, by decide⟩) (Nat.le_of_ble_eq_true rfl) rfl ?_
  rintro x G' ⟨rfl, rfl⟩
  refine x_rI (pc := 28) dX4_lengthOf_28 rfl ?_
  exact ⟨rfl, rfl⟩
theorem cFL.FR {T : List Nat} {G G' : Nat → Nat → Int} (h : cFL z G) (hR : FR T G G') (h1 : 55 ∉ T) (h2 : 59 ∉ T) (h3 : 60 ∉ T) : cFL z G' :=
  ⟨by rw [hR _ h1]; exact h.1, fun u hu => by rw [hR _ h2, hR _ h3]; exact h.2 u hu⟩
abbrev pSpr (L : List Nat) (G0 : Nat → Nat → Int) (I : Nat → Nat → Nat) (q : Nat) (z : Nat → Nat) (n t : Nat) : x_Q := qI L fun x G' => x = yof I q z n ∧ (∀ j, j < yof I q z n → G' t j = zrw I q z n j) ∧ FR [t] G0 G' ∧ x_Fin xFL G'
theorem l_fi_spr {r n q t i w b : Nat} {x5 x6 : Int} {G0 : Nat → Nat → Int} {Q : x_Q} (hL : x_SL L) (ht : xK t = (13, 96)) (htL : t ∈ L) (hi : i < n) (hn : n ≤ 12) (hle : yof I q z (i + 1) ≤ 96) (hw : yof I q z (i + 1) = yof I q z i + w) (hb : ∀ j, yof I q z i ≤ j → j < yof I q z (i + 1) → zrw I q z (i + 1) j = b + (j - yof I q z i)) (hb100 : b ≤ 100)
    (hsm : ∀ j, j < yof I q z i → zrw I q z (i + 1) j = zrw I q z i j)
    (cont : ∀ (G : Nat → Nat → Int) (o7 o8 : Option (Nat × Int)), (∀ j, j < yof I q z (i + 1) → G t j = zrw I q z (i + 1) j) → FR [t] G0 G → x_Fin xFL G → X mX4_spread 1 0 0 Q 5 [some (vR 55), some (vR r), some (vR t), some (vI (yof I q z (i + 1))), some (vI ((i : Int) + 1)), some (vI x5), some (vI x6), o7, o8] [] L G 0 0) :
    ∀ (k d : Nat) (G : Nat → Nat → Int), d + k = w → (∀ j, j < yof I q z i + d → G t j = zrw I q z (i + 1) j) → FR [t] G0 G → x_Fin xFL G →
    X mX4_spread 1 0 0 Q 79 [some (vR 55), some (vR r), some (vR t), some (vI ((yof I q z i + d : Nat) : Int)), some (vI i), some (vI x5), some (vI x6), some (vI ((b + d : Nat) : Int)), some (vI (yof I q z (i + 1)))] [] L G 0 0 := by
  intro k
  induction k with
  | zero =>
    intro d G hd h hQ hF
    have hd : d = w := by omega
    subst hd
    refine x_iloadn (pc := 79) dX4_spread_79 rfl ?_
    refine x_iload (pc := 80) dX4_spread_80 rfl ?_
    refine x_cge (tgt := 99) (pc := 82) dX4_spread_82 (by decide) (by omega) (fun c_82 => ?_) (fun c_82 => ?_)
    rotate_left
    · skip
      exact absurd c_82 (by omega)
    refine x_iinc (pc := 99) dX4_spread_99 rfl (by decide) rfl ?_
    refine x_goto (tgt := 5) (pc := 102) dX4_spread_102 (by decide) ?_
    rw [← hw]
    exact cont G _ _ (fun j hj => h j (by omega)) hQ hF
  | succ k ih =>
    intro d G hd h hQ hF
    refine x_iloadn (pc := 79) dX4_spread_79 rfl ?_
    refine x_iload (pc := 80) dX4_spread_80 rfl ?_
    refine x_cge (tgt := 99) (pc := 82) dX4_spread_82 (by decide) (by omega) (fun c_82 => ?_) (fun c_82 => ?_)
    · skip
      exact absurd c_82 (by omega)
    refine x_aloadn (pc := 85) dX4_spread_85 rfl ?_
    refine x_iloadn (pc := 86) dX4_spread_86 rfl ?_
    refine x_iload (pc := 87) dX4_spread_87 rfl ?_
    refine x_iastF (yof I q z i + d) (pc := 89) dX4_spread_89 ht htL (⟨by omega, by omega, by decide⟩) hF (fun hF => ?_)
    refine x_iinc (pc := 90) dX4_spread_90 rfl (by decide) rfl ?_
    refine x_iinc (pc := 93) dX4_spread_93 rfl (by decide) rfl ?_
    refine x_goto (tgt := 79) (pc := 96) dX4_spread_96 (by decide) ?_
    refine ih (d + 1) _ (by omega) (fun j hj => ?_) (hQ.up (by simp)) hF
    by_cases e : j = yof I q z i + d
    · rw [e, x_up_s, hb _ (by omega) (by omega)]; congr 1; omega
    · rw [x_up_k e]; exact h j (by omega)
theorem l_fi_sp5 {r n q t : Nat} {G0 : Nat → Nat → Int} (h : xSd r) (hL : x_SL L) (hS : cSd r n I q G0) (hz : cFL z G0) (ht : xK t = (13, 96)) (htL : t ∈ L) (hta : 62 ≤ t ∧ t ≤ 63) :
    ∀ (k i : Nat) (G : Nat → Nat → Int) (o5 o6 o7 o8 : Option (Nat × Int)), i + k = n → (∀ j, j < yof I q z i → G t j = zrw I q z i j) → FR [t] G0 G → x_Fin xFL G →
    X mX4_spread 1 0 0 (pSpr L G0 I q z n t) 5 [some (vR 55), some (vR r), some (vR t), some (vI (yof I q z i)), some (vI i), o5, o6, o7, o8] [] L G 0 0 := by
  obtain ⟨s1, s2, s3, s4, s5⟩ := id hS
  have hb := sd_b h
  have htr : t ≠ r ∧ t ≠ r + 1 ∧ t ≠ r + 2 := by
    rcases h with ⟨k, h1, rfl⟩ | ⟨k, h1, rfl⟩ <;> omega
  have hz8 : ∀ u, u < 4 → z u ≤ 8 := fun u hu => (hz.2 u hu).2.2
  have hV : ∀ j, j < n → zV (I q j) := fun j hj => (s3 j hj).2
  intro k
  induction k with
  | zero =>
    intro i G o5 o6 o7 o8 hi hrow hQ hF
    have hi : i = n := by omega
    subst hi
    have hS' := hS.FR hQ (by simp; omega) (by simp; omega) (by simp; omega)
    refine x_iload (pc := 5) dX4_spread_5 rfl ?_
    refine x_aloadn (pc := 7) dX4_spread_7 rfl ?_
    refine x_cVI (pc := 8) dX4_spread_8 lk_X4_84 (c_Sd_length h hL hS') (sd_k h).1 ⟨by decide, rfl⟩ (sd_m h hL 0 (by decide)) (⟨by decide, by decide⟩) (Nat.le_of_ble_eq_true rfl) rfl ?_
    rintro x G' ⟨rfl, rfl⟩
    refine x_cge (tgt := 105) (pc := 11) dX4_spread_11 (by decide) (by omega) (fun c_11 => ?_) (fun c_11 => ?_)
    rotate_left
    · skip
      exact absurd c_11 (by omega)
    refine x_iloadn (pc := 105) dX4_spread_105 rfl ?_
    refine x_rI (pc := 106) dX4_spread_106 rfl ?_
    exact ⟨rfl, hrow, hQ, hF⟩
  | succ k ih =>
    intro i G o5 o6 o7 o8 hi hrow hQ hF
    have hS' := hS.FR hQ (by simp; omega) (by simp; omega) (by simp; omega)
    have hz' : cFL z G := hz.FR hQ (by simp; omega) (by simp; omega) (by simp; omega)
    obtain ⟨v1, v2⟩ := hV i (by omega)
    have hof : yof I q z (i + 1) = yof I q z i + (if I q i < 4 then 1 else z (I q i - 4)) := rfl
    have h96 := zof_96 (I := I) (q := q) hz8 hV (i + 1) (by omega)
    have hrw : ∀ j, zrw I q z (i + 1) j = if j < yof I q z i then zrw I q z i j else if I q i < 4 then I q i else 3 + zbg z (I q i - 4) + (j - yof I q z i) := fun j => rfl
    have hsm : ∀ j, j < yof I q z i → zrw I q z (i + 1) j = zrw I q z i j := fun j hj => by rw [hrw, if_pos hj]
    have hat : (if (0 : Int) ≤ i ∧ (i : Int) < n then (I q (i : Int).toNat : Int) else -1) = I q i := by rw [if_pos (by omega), Int.toNat_natCast]
    by_cases c4 : I q i < 4
    · rw [if_pos c4] at hof
      have isu : (if (4 : Int) ≤ (I q i : Int) then (1 : Int) else 0) = 0 := if_neg (by omega)
      refine x_iload (pc := 5) dX4_spread_5 rfl ?_
      refine x_aloadn (pc := 7) dX4_spread_7 rfl ?_
      refine x_cVI (pc := 8) dX4_spread_8 lk_X4_84 (c_Sd_length h hL hS') (sd_k h).1 ⟨by decide, rfl⟩ (sd_m h hL 0 (by decide)) (⟨by decide, by decide⟩) (Nat.le_of_ble_eq_true rfl) rfl ?_
      rintro x G' ⟨rfl, rfl⟩
      refine x_cge (tgt := 105) (pc := 11) dX4_spread_11 (by decide) (by omega) (fun c_11 => ?_) (fun c_11 => ?_)
      · skip
        exact absurd c_11 (by omega)
      refine x_aloadn (pc := 14) dX4_spread_14 rfl ?_
      refine x_iload (pc := 15) dX4_spread_15 rfl ?_
      refine x_cVI (pc := 17) dX4_spread_17 lk_X4_85 (c_Sd_at (a := (i : Int)) h hL hF hS' (by omega)) (sd_k h).1 ⟨by decide, rfl⟩ (sd_m h hL 0 (by decide)) (⟨by decide, by decide⟩) (Nat.le_of_ble_eq_true rfl) rfl ?_
      rintro x G' ⟨rfl, rfl⟩
      rw [hat]
      refine x_istore (pc := 20) dX4_spread_20 (by decide) rfl ?_
      refine x_iload (pc := 22) dX4_spread_22 rfl ?_
      refine x_cSNI (pc := 24) dX4_spread_24 lk_X4_89 (c_ts_isU (by omega)) (⟨by decide, by decide⟩) (Nat.le_of_ble_eq_true rfl) rfl ?_
      rintro x G' ⟨rfl, rfl⟩
      rw [isu]
      refine x_istore (pc := 27) dX4_spread_27 (by decide) rfl ?_
      refine x_iload (pc := 29) dX4_spread_29 rfl ?_
      refine x_ieq (tgt := 47) (pc := 31) dX4_spread_31 (by decide) (by omega) (fun c_31 => ?_) (fun c_31 => ?_)
      rotate_left
      · skip
        exact absurd rfl c_31
      refine x_iload (pc := 47) dX4_spread_47 rfl ?_
      refine x_istore (pc := 49) dX4_spread_49 (by decide) rfl ?_
      refine x_aloadn (pc := 51) dX4_spread_51 rfl ?_
      refine x_alen (pc := 52) dX4_spread_52 ht (by decide) htL ?_
      refine x_iloadn (pc := 53) dX4_spread_53 rfl ?_
      refine x_iload (pc := 54) dX4_spread_54 rfl ?_
      refine x_ieq (tgt := 72) (pc := 56) dX4_spread_56 (by decide) (by omega) (fun c_56 => ?_) (fun c_56 => ?_)
      rotate_left
      · skip
        exact absurd rfl c_56
      refine x_iconst (pc := 72) dX4_spread_72 ?_
      refine x_iadd (pc := 73) dX4_spread_73 ?_
      refine x_mmin (pc := 74) dX4_spread_74 lk_X4_38 (by omega) (Nat.le_of_ble_eq_true rfl) (by omega) ?_
      rw [show min ((96 : Nat) : Int) ((yof I q z i : Nat) + 1) = ((yof I q z (i + 1) : Nat) : Int) by omega]
      refine x_istore (pc := 77) dX4_spread_77 (by decide) rfl ?_
      refine l_fi_spr (w := 1) (b := I q i) hL ht htL (show i < n by omega) s2 (by omega) hof (fun j h1 h2 => ?_) (by omega) hsm (fun G o7 o8 g1 g2 g3 => ih (i + 1) G _ _ _ _ (by omega) g1 g2 g3) 1 0 _ (by omega) (fun j hj => by rw [hsm j (by omega)]; exact hrow j (by omega)) hQ hF
      rw [hrw, if_neg (by omega), if_pos c4]; omega
    · obtain ⟨u, hu, hiu⟩ : ∃ u, u < 4 ∧ I q i = 4 + u := ⟨I q i - 4, by omega, by omega⟩
      have hiu4 : I q i - 4 = u := by omega
      rw [if_neg c4, hiu4] at hof
      have isu : (if (4 : Int) ≤ (I q i : Int) then (1 : Int) else 0) = 1 := if_pos (by omega)
      have hum : ((I q i : Nat) : Int) % 4 = u := by omega
      obtain ⟨g1, g2, g3⟩ := hz'.2 u hu
      have hzu := hz8 u hu
      have hbu := zbg_4 hz8 u (by omega)
      refine x_iload (pc := 5) dX4_spread_5 rfl ?_
      refine x_aloadn (pc := 7) dX4_spread_7 rfl ?_
      refine x_cVI (pc := 8) dX4_spread_8 lk_X4_84 (c_Sd_length h hL hS') (sd_k h).1 ⟨by decide, rfl⟩ (sd_m h hL 0 (by decide)) (⟨by decide, by decide⟩) (Nat.le_of_ble_eq_true rfl) rfl ?_
      rintro x G' ⟨rfl, rfl⟩
      refine x_cge (tgt := 105) (pc := 11) dX4_spread_11 (by decide) (by omega) (fun c_11 => ?_) (fun c_11 => ?_)
      · skip
        exact absurd c_11 (by omega)
      refine x_aloadn (pc := 14) dX4_spread_14 rfl ?_
      refine x_iload (pc := 15) dX4_spread_15 rfl ?_
      refine x_cVI (pc := 17) dX4_spread_17 lk_X4_85 (c_Sd_at (a := (i : Int)) h hL hF hS' (by omega)) (sd_k h).1 ⟨by decide, rfl⟩ (sd_m h hL 0 (by decide)) (⟨by decide, by decide⟩) (Nat.le_of_ble_eq_true rfl) rfl ?_
      rintro x G' ⟨rfl, rfl⟩
      rw [hat]
      refine x_istore (pc := 20) dX4_spread_20 (by decide) rfl ?_
      refine x_iload (pc := 22) dX4_spread_22 rfl ?_
      refine x_cSNI (pc := 24) dX4_spread_24 lk_X4_89 (c_ts_isU (by omega)) (⟨by decide, by decide⟩) (Nat.le_of_ble_eq_true rfl) rfl ?_
      rintro x G' ⟨rfl, rfl⟩
      rw [isu]
      refine x_istore (pc := 27) dX4_spread_27 (by decide) rfl ?_
      refine x_iload (pc := 29) dX4_spread_29 rfl ?_
      refine x_ieq (tgt := 47) (pc := 31) dX4_spread_31 (by decide) (by omega) (fun c_31 => ?_) (fun c_31 => ?_)
      · skip
        exact absurd c_31 (by decide)
      refine x_aloadn (pc := 34) dX4_spread_34 rfl ?_
      refine x_getR (60) (pc := 35) dX4_spread_35 fl_X4_22 k_55 (hL 55 (by decide) (by decide)) (f_55_2 hF) ?_
      refine x_iload (pc := 38) dX4_spread_38 rfl ?_
      refine x_cSNI (pc := 40) dX4_spread_40 lk_X4_93 (c_ts_uOf) (⟨by decide, by decide⟩) (Nat.le_of_ble_eq_true rfl) rfl ?_
      rintro x G' ⟨rfl, rfl⟩
      rw [hum]
      refine x_iald (u) (pc := 43) dX4_spread_43 k_60 (hL 60 (by decide) (by decide)) (⟨by omega, by omega, by decide⟩) ?_
      rw [g2]
      refine x_goto (tgt := 49) (pc := 44) dX4_spread_44 (by decide) ?_
      refine x_istore (pc := 49) dX4_spread_49 (by decide) rfl ?_
      refine x_aloadn (pc := 51) dX4_spread_51 rfl ?_
      refine x_alen (pc := 52) dX4_spread_52 ht (by decide) htL ?_
      refine x_iloadn (pc := 53) dX4_spread_53 rfl ?_
      refine x_iload (pc := 54) dX4_spread_54 rfl ?_
      refine x_ieq (tgt := 72) (pc := 56) dX4_spread_56 (by decide) (by omega) (fun c_56 => ?_) (fun c_56 => ?_)
      · skip
        exact absurd c_56 (by decide)
      refine x_aloadn (pc := 59) dX4_spread_59 rfl ?_
      refine x_getR (59) (pc := 60) dX4_spread_60 fl_X4_18 k_55 (hL 55 (by decide) (by decide)) (f_55_1 hF) ?_
      refine x_iload (pc := 63) dX4_spread_63 rfl ?_
      refine x_cSNI (pc := 65) dX4_spread_65 lk_X4_93 (c_ts_uOf) (⟨by decide, by decide⟩) (Nat.le_of_ble_eq_true rfl) rfl ?_
      rintro x G' ⟨rfl, rfl⟩
      rw [hum]
      refine x_iald (u) (pc := 68) dX4_spread_68 k_59 (hL 59 (by decide) (by decide)) (⟨by omega, by omega, by decide⟩) ?_
      rw [g1]
      refine x_goto (tgt := 73) (pc := 69) dX4_spread_69 (by decide) ?_
      refine x_iadd (pc := 73) dX4_spread_73 ?_
      refine x_mmin (pc := 74) dX4_spread_74 lk_X4_38 (by omega) (Nat.le_of_ble_eq_true rfl) (by omega) ?_
      rw [show min ((96 : Nat) : Int) ((yof I q z i : Nat) + (z u : Nat)) = ((yof I q z (i + 1) : Nat) : Int) by omega]
      refine x_istore (pc := 77) dX4_spread_77 (by decide) rfl ?_
      refine l_fi_spr (w := z u) (b := 3 + zbg z u) hL ht htL (show i < n by omega) s2 (by omega) hof (fun j h1 h2 => ?_) (by omega) hsm (fun G o7 o8 g1 g2 g3 => ih (i + 1) G _ _ _ _ (by omega) g1 g2 g3) (z u) 0 _ (by omega) (fun j hj => by rw [hsm j (by omega)]; exact hrow j (by omega)) hQ hF
      rw [hrw, if_neg (by omega), if_neg c4, hiu4]
theorem c_fi_spread {r n q t : Nat} {G : Nat → Nat → Int} (h : xSd r) (hL : x_SL L) (hF : x_Fin xFL G) (hS : cSd r n I q G) (hz : cFL z G) (ht : xK t = (13, 96)) (htL : t ∈ L) (hta : 62 ≤ t ∧ t ≤ 63) :
    CM yX4_spread mX4_spread 1 0 0 [vR 55, vR r, vR t] L G (pSpr L G I q z n t) := by
  refine Ct.of_X (μ := mX4_spread) rfl rfl (by decide) (fun h => by cases h) (Nat.le_of_ble_eq_true rfl) rfl ?_
  refine x_iconst (pc := 0) dX4_spread_0 ?_
  refine x_istoren (pc := 1) dX4_spread_1 rfl (by decide) rfl ?_
  refine x_iconst (pc := 2) dX4_spread_2 ?_
  refine x_istore (pc := 3) dX4_spread_3 (by decide) rfl ?_
  exact l_fi_sp5 h hL hS hz ht htL hta n 0 G _ _ _ _ (by omega) (fun j hj => absurd hj (Nat.not_lt_zero j)) FR.rf hF
end XFI

