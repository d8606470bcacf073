/-! the class: an answer told -/
section XTO
variable {m : Nat} {S : Nat → Nat} {I : Nat → Nat → Nat} {lo hi mk : Nat → Nat} {L : List Nat}
theorem zR_T {W : Nat → Nat} {c b : Nat} (hc : c < b) (hW : 0 < W c) (h : zR W b = zR W c + 1) : zT W b = zT W c + W c := by
  have h1 : zR W (c + 1) = zR W c + 1 := by rw [zR, if_pos hW]
  have h2 := zT_skip (W := W) (a := c + 1) b (by omega) (fun d h3 h4 => by
    rcases Nat.eq_zero_or_pos (W d) with e | e
    · exact e
    · have h5 := zR_lt h4 e
      have h6 := zR_mono (W := W) d (show c + 1 ≤ d by omega)
      omega)
  rw [h2.1]; rfl
theorem zR_pos {W : Nat → Nat} : ∀ b, 0 < zT W b → 0 < zR W b
  | 0, h => absurd h (Nat.not_lt_zero 0)
  | b + 1, h => by
    rw [zR]
    by_cases e : 0 < W b
    · rw [if_pos e]; omega
    · have h1 : zT W (b + 1) = zT W b + W b := rfl
      have := zR_pos (W := W) b (by omega)
      omega
theorem zR_inc {W : Nat → Nat} {a b : Nat} (h : zR W a < zR W b) : a < b := by
  rcases Nat.lt_or_ge a b with q | q
  · exact q
  · have := zR_mono (W := W) a q; omega
/-- the row that a rank falls into -/
abbrev pRw (L : List Nat) (G0 : Nat → Nat → Int) (R : Nat) (i : Int) : x_Q := qI L fun x G' => (∃ r : Nat, x = r ∧ r < R ∧ G0 168 r ≤ i ∧ (r + 1 = R ∨ i < G0 168 (r + 1))) ∧ G' = G0
theorem l_an_ro {R : Nat} {i : Int} {G : Nat → Nat → Int} (hL : x_SL L) (hF : x_Fin xFL G) (hrw : cRW L G) (hR : R ≤ 6561) (hah : ∀ r, r < R → 0 ≤ G 168 r ∧ G 168 r < 4611686018427387904) (hi : 0 ≤ i ∧ i < 4611686018427387904) :
    ∀ (j lw hg st : Nat) (o6 : Option (Nat × Int)), lw ≤ hg → hg < R → hg < lw + 2 ^ j → st + j ≤ 32 → G 168 lw ≤ i → (hg + 1 = R ∨ i < G 168 (hg + 1)) →
    X mX1_rowOf 0 0 0 (pRw L G R i) 13 [some (vR 46), some (vL i), none, some (vI lw), some (vI hg), some (vI st), o6] [] L G 0 0 := by
  obtain ⟨⟨hL_167, hL_168⟩, h9, h10⟩ := hrw
  intro j
  induction j with
  | zero =>
    intro lw hg st o6 h1 h2 h3 h4 h5 h6
    have e : hg = lw := by omega
    subst e
    refine x_iload (pc := 13) dX1_rowOf_13 rfl ?_
    refine x_bipush (pc := 15) dX1_rowOf_15 (by decide) ?_
    refine x_cge (tgt := 66) (pc := 17) dX1_rowOf_17 (by decide) (by omega) (fun c_17 => ?_) (fun c_17 => ?_)
    · skip
      refine x_iloadn (pc := 66) dX1_rowOf_66 rfl ?_
      refine x_rI (pc := 67) dX1_rowOf_67 rfl ?_
      exact ⟨⟨hg, rfl, h2, h5, h6⟩, rfl⟩
    · skip
      refine x_iloadn (pc := 20) dX1_rowOf_20 rfl ?_
      refine x_iload (pc := 21) dX1_rowOf_21 rfl ?_
      refine x_cge (tgt := 66) (pc := 23) dX1_rowOf_23 (by decide) (by omega) (fun c_23 => ?_) (fun c_23 => ?_)
      rotate_left
      · skip
        exact absurd c_23 (by omega)
      refine x_iloadn (pc := 66) dX1_rowOf_66 rfl ?_
      refine x_rI (pc := 67) dX1_rowOf_67 rfl ?_
      exact ⟨⟨hg, rfl, h2, h5, h6⟩, rfl⟩
  | succ j ih =>
    intro lw hg st o6 h1 h2 h3 h4 h5 h6
    have hp : 2 ^ (j + 1) = 2 * 2 ^ j := by rw [Nat.pow_succ, Nat.mul_comm]
    by_cases e : hg = lw
    · subst e
      refine x_iload (pc := 13) dX1_rowOf_13 rfl ?_
      refine x_bipush (pc := 15) dX1_rowOf_15 (by decide) ?_
      refine x_cge (tgt := 66) (pc := 17) dX1_rowOf_17 (by decide) (by omega) (fun c_17 => ?_) (fun c_17 => ?_)
      · skip
        refine x_iloadn (pc := 66) dX1_rowOf_66 rfl ?_
        refine x_rI (pc := 67) dX1_rowOf_67 rfl ?_
        exact ⟨⟨hg, rfl, h2, h5, h6⟩, rfl⟩
      · skip
        refine x_iloadn (pc := 20) dX1_rowOf_20 rfl ?_
        refine x_iload (pc := 21) dX1_rowOf_21 rfl ?_
        refine x_cge (tgt := 66) (pc := 23) dX1_rowOf_23 (by decide) (by omega) (fun c_23 => ?_) (fun c_23 => ?_)
        rotate_left
        · skip
          exact absurd c_23 (by omega)
        refine x_iloadn (pc := 66) dX1_rowOf_66 rfl ?_
        refine x_rI (pc := 67) dX1_rowOf_67 rfl ?_
        exact ⟨⟨hg, rfl, h2, h5, h6⟩, rfl⟩
    · obtain ⟨md, hmd⟩ : ∃ md, md = (lw + hg + 1) / 2 := ⟨_, rfl⟩
      have hm1 : ((lw : Int) + (hg : Int) + 1) / 2 = (md : Int) := by omega
      have hmb := hah md (by omega)
      have ih2 := fun lw hg => ih lw hg (st + 1)
      refine x_iload (pc := 13) dX1_rowOf_13 rfl ?_
      refine x_bipush (pc := 15) dX1_rowOf_15 (by decide) ?_
      refine x_cge (tgt := 66) (pc := 17) dX1_rowOf_17 (by decide) (by omega) (fun c_17 => ?_) (fun c_17 => ?_)
      · skip
        exact absurd c_17 (by omega)
      refine x_iloadn (pc := 20) dX1_rowOf_20 rfl ?_
      refine x_iload (pc := 21) dX1_rowOf_21 rfl ?_
      refine x_cge (tgt := 66) (pc := 23) dX1_rowOf_23 (by decide) (by omega) (fun c_23 => ?_) (fun c_23 => ?_)
      · skip
        exact absurd c_23 (by omega)
      refine x_iloadn (pc := 26) dX1_rowOf_26 rfl ?_
      refine x_iload (pc := 27) dX1_rowOf_27 rfl ?_
      refine x_iadd (pc := 29) dX1_rowOf_29 ?_
      refine x_iconst (pc := 30) dX1_rowOf_30 ?_
      refine x_iadd (pc := 31) dX1_rowOf_31 ?_
      refine x_iconst (pc := 32) dX1_rowOf_32 ?_
      refine x_idiv (pc := 33) dX1_rowOf_33 (by omega) ?_
      rw [hm1]
      refine x_istore (pc := 34) dX1_rowOf_34 (by decide) rfl ?_
      refine x_aloadn (pc := 36) dX1_rowOf_36 rfl ?_
      refine x_getR (168) (pc := 37) dX1_rowOf_37 fl_X1_46 k_46 (hL 46 (by decide) (by decide)) h10 ?_
      refine x_iload (pc := 40) dX1_rowOf_40 rfl ?_
      refine x_lald (md) (pc := 42) dX1_rowOf_42 k_168 hL_168 (⟨by omega, by omega, by decide⟩) ?_
      refine x_lloadn (pc := 43) dX1_rowOf_43 rfl ?_
      refine x_lcmp (pc := 44) dX1_rowOf_44 (by omega) ?_
      refine x_igt (tgt := 54) (pc := 45) dX1_rowOf_45 (by decide) (zl_rg) (fun c_45 => ?_) (fun c_45 => ?_)
      · skip
        have c_45 := zl_g c_45
        refine x_iload (pc := 54) dX1_rowOf_54 rfl ?_
        refine x_iconst (pc := 56) dX1_rowOf_56 ?_
        refine x_isub (pc := 57) dX1_rowOf_57 ?_
        refine x_istore (pc := 58) dX1_rowOf_58 (by decide) rfl ?_
        refine x_iinc (pc := 60) dX1_rowOf_60 rfl (by decide) rfl ?_
        refine x_goto (tgt := 13) (pc := 63) dX1_rowOf_63 (by decide) ?_
        first
        | exact ih2 md hg _ (by omega) h2 (by omega) (by omega) (by omega) h6
        | (rw [show (md : Int) - 1 = ((md - 1 : Nat) : Int) by omega]
           exact ih2 lw (md - 1) _ (by omega) (by omega) (by omega) (by omega) h5 (Or.inr (by rw [show md - 1 + 1 = md by omega]; omega)))
      · skip
        have c_45 := zl_le c_45
        refine x_iload (pc := 48) dX1_rowOf_48 rfl ?_
        refine x_istoren (pc := 50) dX1_rowOf_50 rfl (by decide) rfl ?_
        refine x_goto (tgt := 60) (pc := 51) dX1_rowOf_51 (by decide) ?_
        refine x_iinc (pc := 60) dX1_rowOf_60 rfl (by decide) rfl ?_
        refine x_goto (tgt := 13) (pc := 63) dX1_rowOf_63 (by decide) ?_
        first
        | exact ih2 md hg _ (by omega) h2 (by omega) (by omega) (by omega) h6
        | (rw [show (md : Int) - 1 = ((md - 1 : Nat) : Int) by omega]
           exact ih2 lw (md - 1) _ (by omega) (by omega) (by omega) (by omega) h5 (Or.inr (by rw [show md - 1 + 1 = md by omega]; omega)))
theorem c_an_rowOf {R : Nat} {i : Int} {G : Nat → Nat → Int} (hL : x_SL L) (hF : x_Fin xFL G) (hrw : cRW L G) (hr : G 46 11 = R) (hR1 : 1 ≤ R) (hR : R ≤ 6561) (hah : ∀ r, r < R → 0 ≤ G 168 r ∧ G 168 r < 4611686018427387904) (hi : 0 ≤ i ∧ i < 4611686018427387904) (h0 : G 168 0 ≤ i) :
    CM yX1_rowOf mX1_rowOf 0 0 0 [vR 46, vL i] L G (pRw L G R i) := by
  have key := l_an_ro hL hF hrw hR hah hi 13 0 (R - 1) 0 none (by omega) (by omega) (by omega) (by decide) h0 (Or.inl (by omega))
  refine Ct.of_X (μ := mX1_rowOf) rfl rfl (by decide) (fun h => by cases h) (Nat.le_of_ble_eq_true rfl) rfl ?_
  refine x_iconst (pc := 0) dX1_rowOf_0 ?_
  refine x_istoren (pc := 1) dX1_rowOf_1 rfl (by decide) rfl ?_
  refine x_aloadn (pc := 2) dX1_rowOf_2 rfl ?_
  refine x_getI (pc := 3) dX1_rowOf_3 fl_X1_50 k_46 (hL 46 (by decide) (by decide)) ?_
  rw [hr]
  refine x_iconst (pc := 6) dX1_rowOf_6 ?_
  refine x_isub (pc := 7) dX1_rowOf_7 ?_
  refine x_istore (pc := 8) dX1_rowOf_8 (by decide) rfl ?_
  refine x_iconst (pc := 10) dX1_rowOf_10 ?_
  refine x_istore (pc := 11) dX1_rowOf_11 (by decide) rfl ?_
  rw [show (R : Int) - 1 = ((R - 1 : Nat) : Int) by omega]
  exact key
theorem l_an_ro0 {i : Int} {G : Nat → Nat → Int} (hL : x_SL L) :
    X mX1_rowOf 0 0 0 (qI L fun x G' => x = 0 ∧ G' = G) 13 [some (vR 46), some (vL i), none, some (vI 0), some (vI (0 - 1)), some (vI 0), none] [] L G 0 0 := by
  refine x_iload (pc := 13) dX1_rowOf_13 rfl ?_
  refine x_bipush (pc := 15) dX1_rowOf_15 (by decide) ?_
  refine x_cge (tgt := 66) (pc := 17) dX1_rowOf_17 (by decide) (by omega) (fun c_17 => ?_) (fun c_17 => ?_)
  · skip
    exact absurd c_17 (by decide)
  refine x_iloadn (pc := 20) dX1_rowOf_20 rfl ?_
  refine x_iload (pc := 21) dX1_rowOf_21 rfl ?_
  refine x_cge (tgt := 66) (pc := 23) dX1_rowOf_23 (by decide) (by omega) (fun c_23 => ?_) (fun c_23 => ?_)
  rotate_left
  · skip
    exact absurd c_23 (by decide)
  refine x_iloadn (pc := 66) dX1_rowOf_66 rfl ?_
  refine x_rI (pc := 67) dX1_rowOf_67 rfl ?_
  exact ⟨rfl, rfl⟩
theorem c_an_rowOf0 {i : Int} {G : Nat → Nat → Int} (hL : x_SL L) (hr : G 46 11 = 0) :
    CM yX1_rowOf mX1_rowOf 0 0 0 [vR 46, vL i] L G (qI L fun x G' => x = 0 ∧ G' = G) := by
  refine Ct.of_X (μ := mX1_rowOf) rfl rfl (by decide) (fun h => by cases h) (Nat.le_of_ble_eq_true rfl) rfl ?_
  refine x_iconst (pc := 0) dX1_rowOf_0 ?_
  refine x_istoren (pc := 1) dX1_rowOf_1 rfl (by decide) rfl ?_
  refine x_aloadn (pc := 2) dX1_rowOf_2 rfl ?_
  refine x_getI (pc := 3) dX1_rowOf_3 fl_X1_50 k_46 (hL 46 (by decide) (by decide)) ?_
  rw [hr]
  refine x_iconst (pc := 6) dX1_rowOf_6 ?_
  refine x_isub (pc := 7) dX1_rowOf_7 ?_
  refine x_istore (pc := 8) dX1_rowOf_8 (by decide) rfl ?_
  refine x_iconst (pc := 10) dX1_rowOf_10 ?_
  refine x_istore (pc := 11) dX1_rowOf_11 (by decide) rfl ?_
  exact l_an_ro0 hL
theorem zcw_nz {f a : Nat → Nat} : ∀ n, 0 < zcw f a n → ∀ p, p < n → f (3 + p) = 3 + p → a (3 + p) ≠ 0
  | 0, _, p, hp, _ => absurd hp (Nat.not_lt_zero p)
  | n + 1, h, p, hp, he => by
    rw [zcw] at h
    by_cases c : p = n
    · subst c
      intro w
      rw [if_pos he, w, zpop_0, Nat.mul_zero] at h
      exact absurd h (by decide)
    · refine zcw_nz n ?_ p (by omega) he
      rcases Nat.eq_zero_or_pos (zcw f a n) with e | e
      · rw [e, Nat.zero_mul] at h; exact absurd h (by decide)
      · exact e
/-- what is told of an answer -/
noncomputable def zTl (m : Nat) (S : Nat → Nat) (I : Nat → Nat → Nat) (mk : Nat → Nat) (c r u : Nat) (k : Int) : Int := if k = -1 then (zcz c u : Int) else if k < zcz c u then zcl m S I (zcz c) mk r (zbg (zcz c) u + k.toNat) else -1
abbrev zanS : List Nat := [46, 52, 53, 54, 55, 56, 57, 58, 59, 60, 62, 63, 167, 168, 61]
abbrev zfiS : List Nat := [55, 56, 57, 58, 59, 60, 62, 63, 61]
abbrev pTo (L : List Nat) (G0 : Nat → Nat → Int) (P : Int → Prop) : x_Q := qI L fun x G' => P x ∧ FR zfiS G0 G' ∧ x_Fin xFL G'
theorem zc4_inj {z z' : Nat → Nat} (h : ∀ u, u < 4 → z u ≤ 8) (h' : ∀ u, u < 4 → z' u ≤ 8) (e : zc4 z = zc4 z') : ∀ u, u < 4 → z u = z' u := by
  have a0 := h 0 (by decide); have a1 := h 1 (by decide); have a2 := h 2 (by decide); have a3 := h 3 (by decide)
  have b0 := h' 0 (by decide); have b1 := h' 1 (by decide); have b2 := h' 2 (by decide); have b3 := h' 3 (by decide)
  unfold zc4 at e
  intro u hu
  rcases (show u = 0 ∨ u = 1 ∨ u = 2 ∨ u = 3 by omega) with rfl | rfl | rfl | rfl <;> omega
theorem zbz_of {c : Nat} (h : 0 < zWc m S I lo hi mk c) : zBz lo hi (zub S I (2 * m)) (zcz c) := by
  apply Classical.byContradiction
  intro w
  rw [zWc_y (zWc_v h), zWy_b w] at h
  exact absurd h (by decide)
/-- a row laid and solved -/
theorem l_an_told {c i u : Nat} {k : Int} {o5 : Nat} {G0 G : Nat → Nat → Int} (hL : x_SL L) (hF : x_Fin xFL G) (hE : cEq m S I G) (hb : cBd lo hi mk G) (hrw : cRW L G) (hS : zSu (zWc m S I lo hi mk) (zVc m S I mk) 24057 G) (hc : c < 24057) (hW : 0 < zWc m S I lo hi mk c) (ho5 : o5 = zR (zWc m S I lo hi mk) c) (hi1 : zT (zWc m S I lo hi mk) c ≤ i) (hi2 : i < 1000000000) (hu : u < 4) (hk : -1 ≤ k ∧ k < 2147483648) (hG : G = G0) :
    X mX1_told 5 0 0 (pTo L G0 (fun x => x = zTl m S I mk c (i - zT (zWc m S I lo hi mk) c) u k)) 33 [some (vR 46), some (vR 4), some (vI i), some (vI u), some (vI k), some (vI o5)] [] L G 0 0 := by
  subst hG
  obtain ⟨⟨hL_167, hL_168⟩, h9, h10⟩ := id hrw
  have hv := zWc_v hW
  have hz8 := (zcz_v hv).1
  have hV := hE.EV
  have hB := zbz_of hW
  obtain ⟨s1, s2, s3, s4⟩ := id hS
  obtain ⟨t1, t2⟩ := s3 c hc hW
  have hR := zR_6561 (W := zWc m S I lo hi mk) (fun c h => zWc_v h) hc hv
  subst ho5
  have hWy := zWc_y (m := m) (S := S) (I := I) (lo := lo) (hi := hi) (mk := mk) hv
  have hzu := hz8 u hu
  refine x_aloadn (pc := 33) dX1_told_33 rfl ?_
  refine x_getR (55) (pc := 34) dX1_told_34 fl_X1_39 k_46 (hL 46 (by decide) (by decide)) (f_46_8 hF) ?_
  refine x_aloadn (pc := 37) dX1_told_37 rfl ?_
  refine x_getR (167) (pc := 38) dX1_told_38 fl_X1_43 k_46 (hL 46 (by decide) (by decide)) h9 ?_
  refine x_iload (pc := 41) dX1_told_41 rfl ?_
  refine x_iald (zR (zWc m S I lo hi mk) c) (pc := 43) dX1_told_43 k_167 hL_167 (⟨by omega, by omega, by decide⟩) ?_
  rw [t1]
  refine x_cVV (pc := 44) dX1_told_44 lk_X1_85 (c_fi_lay (z := zcz c) hL hF hz8) k_55 ⟨by decide, rfl⟩ (hL 55 (by decide) (by decide)) (⟨by decide, by decide⟩) (Nat.le_of_ble_eq_true rfl) rfl ?_
  rintro G1 ⟨a1, a2, hF⟩
  have hE1 := hE.FR a2 (by decide)
  have hb1 := hb.FR a2 (by decide) (by decide) (by decide)
  refine x_iload (pc := 47) dX1_told_47 rfl ?_
  refine x_iconst (pc := 49) dX1_told_49 ?_
  refine x_cne (tgt := 62) (pc := 50) dX1_told_50 (by decide) (by omega) (fun c_50 => ?_) (fun c_50 => ?_)
  · skip
    refine x_iload (pc := 62) dX1_told_62 rfl ?_
    refine x_aloadn (pc := 64) dX1_told_64 rfl ?_
    refine x_getR (55) (pc := 65) dX1_told_65 fl_X1_39 k_46 (hL 46 (by decide) (by decide)) (f_46_8 hF) ?_
    refine x_iloadn (pc := 68) dX1_told_68 rfl ?_
    refine x_cVI (pc := 69) dX1_told_69 lk_X1_89 (c_fi_length (u := u) hL hF a1 hu) k_55 ⟨by decide, rfl⟩ (hL 55 (by decide) (by decide)) (⟨by decide, by decide⟩) (Nat.le_of_ble_eq_true rfl) rfl ?_
    rintro x G' ⟨rfl, rfl⟩
    refine x_cge (tgt := 90) (pc := 72) dX1_told_72 (by decide) (by omega) (fun c_72 => ?_) (fun c_72 => ?_)
    · skip
      refine x_iconst (pc := 90) dX1_told_90 ?_
      refine x_rI (pc := 91) dX1_told_91 rfl ?_
      first
      | exact ⟨by unfold zTl; rw [if_neg c_50, if_neg (by omega)], a2.mono (by decide), hF⟩
      | (exfalso; omega)
    · skip
      refine x_aloadn (pc := 75) dX1_told_75 rfl ?_
      refine x_getR (55) (pc := 76) dX1_told_76 fl_X1_39 k_46 (hL 46 (by decide) (by decide)) (f_46_8 hF) ?_
      refine x_aloadn (pc := 79) dX1_told_79 rfl ?_
      refine x_aloadn (pc := 80) dX1_told_80 rfl ?_
      refine x_getR (49) (pc := 81) dX1_told_81 fl_X1_18 k_46 (hL 46 (by decide) (by decide)) (f_46_2 hF) ?_
      refine x_cVI (pc := 84) dX1_told_84 lk_X1_93 (c_fi_solves hL hF hE1 a1 hb1) k_55 ⟨by decide, rfl⟩ (hL 55 (by decide) (by decide)) (⟨by decide, by decide⟩) (Nat.le_of_ble_eq_true rfl) rfl ?_
      rintro x G2 ⟨hx, b1, hF⟩
      have hq2 : FR zfiS _ G2 := (a2.mono (by decide)).tr (b1.mono (by decide))
      have hx1 : x = 1 ∧ zLn m S I (zcz c) ∧ ¬ zDd (zE m S I (zcz c)) (zba (zcz c) mk) ∧ cSv m S I (zcz c) mk G2 := by
        rcases hx with hx | hx
        · exact hx
        · have := zWn (lo := lo) (hi := hi) hV hz8 hx.2
          rw [← hWy] at this; omega
      refine x_ine (tgt := 92) (pc := 87) dX1_told_87 (by decide) (by omega) (fun c_87 => ?_) (fun c_87 => ?_)
      · skip
        obtain ⟨k', rfl⟩ : ∃ k' : Nat, k = k' := ⟨k.toNat, by omega⟩
        have hsw := hx1.2.2.2.sw
        have hz2 := a1.FR b1 (by decide) (by decide) (by decide)
        have hwy : zcw (zF m S I (zcz c)) (zA m S I (zcz c) mk) (zbg (zcz c) 4) = zWc m S I lo hi mk c := by rw [hWy, zW_eq hV hx1.2.1 hz8 hB hx1.2.2.1]; rfl
        have g10 : G2 46 10 = ((168 : Nat) : Int) := by rw [b1 _ (by decide), a2 _ (by decide)]; exact h10
        have g168 : G2 168 (zR (zWc m S I lo hi mk) c) = zT (zWc m S I lo hi mk) c := by rw [b1 _ (by decide), a2 _ (by decide)]; exact t2
        refine x_aloadn (pc := 92) dX1_told_92 rfl ?_
        refine x_getR (55) (pc := 93) dX1_told_93 fl_X1_39 k_46 (hL 46 (by decide) (by decide)) (f_46_8 hF) ?_
        refine x_iloadn (pc := 96) dX1_told_96 rfl ?_
        refine x_i2l (pc := 97) dX1_told_97 (by omega) ?_
        refine x_aloadn (pc := 98) dX1_told_98 rfl ?_
        refine x_getR (168) (pc := 99) dX1_told_99 fl_X1_46 k_46 (hL 46 (by decide) (by decide)) g10 ?_
        refine x_iload (pc := 102) dX1_told_102 rfl ?_
        refine x_lald (zR (zWc m S I lo hi mk) c) (pc := 104) dX1_told_104 k_168 hL_168 (⟨by omega, by omega, by decide⟩) ?_
        rw [g168]
        refine x_lsub (pc := 105) dX1_told_105 ?_
        rw [show (i : Int) - ((zT (zWc m S I lo hi mk) c : Nat) : Int) = ((i - zT (zWc m S I lo hi mk) c : Nat) : Int) by omega]
        refine x_cVV (pc := 106) dX1_told_106 lk_X1_97 (c_fi_choose (r := i - zT (zWc m S I lo hi mk) c) hL hF hz2 hsw (by omega) (zcw_nz _ (by rw [hwy]; exact hW))) k_55 ⟨by decide, rfl⟩ (hL 55 (by decide) (by decide)) (⟨by decide, by decide⟩) (Nat.le_of_ble_eq_true rfl) rfl ?_
        rintro G3 ⟨d1, d2, hF⟩
        have hsw3 : cSw m S I (zcz c) mk G3 := by
          obtain ⟨M, ha, h2⟩ := hsw
          exact ⟨M, ha.cg d2 (by decide) (by decide) (by decide), h2⟩
        refine x_aloadn (pc := 109) dX1_told_109 rfl ?_
        refine x_getR (55) (pc := 110) dX1_told_110 fl_X1_39 k_46 (hL 46 (by decide) (by decide)) (f_46_8 hF) ?_
        refine x_iloadn (pc := 113) dX1_told_113 rfl ?_
        refine x_iload (pc := 114) dX1_told_114 rfl ?_
        refine x_cVI (pc := 116) dX1_told_116 lk_X1_101 (c_fi_chosen (u := u) (k := k') hL hF (hz2.FR d2 (by decide) (by decide) (by decide)) hsw3 d1 hu (by omega)) k_55 ⟨by decide, rfl⟩ (hL 55 (by decide) (by decide)) (⟨by decide, by decide⟩) (Nat.le_of_ble_eq_true rfl) rfl ?_
        rintro x G' ⟨rfl, rfl⟩
        refine x_rI (pc := 119) dX1_told_119 rfl ?_
        exact ⟨by unfold zTl; rw [if_neg c_50, if_pos (by omega), Int.toNat_natCast], hq2.tr (d2.mono (by decide)), hF⟩
      · skip
        refine x_iconst (pc := 90) dX1_told_90 ?_
        refine x_rI (pc := 91) dX1_told_91 rfl ?_
        first
        | exact ⟨by unfold zTl; rw [if_neg c_50, if_neg (by omega)], a2.mono (by decide), hF⟩
        | (exfalso; omega)
  · skip
    refine x_aloadn (pc := 53) dX1_told_53 rfl ?_
    refine x_getR (55) (pc := 54) dX1_told_54 fl_X1_39 k_46 (hL 46 (by decide) (by decide)) (f_46_8 hF) ?_
    refine x_iloadn (pc := 57) dX1_told_57 rfl ?_
    refine x_cVI (pc := 58) dX1_told_58 lk_X1_89 (c_fi_length (u := u) hL hF a1 hu) k_55 ⟨by decide, rfl⟩ (hL 55 (by decide) (by decide)) (⟨by decide, by decide⟩) (Nat.le_of_ble_eq_true rfl) rfl ?_
    rintro x G' ⟨rfl, rfl⟩
    refine x_rI (pc := 61) dX1_told_61 rfl ?_
    exact ⟨by unfold zTl; rw [if_pos c_50], a2.mono (by decide), hF⟩
end XTO

