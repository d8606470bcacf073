/-! the class: answers, answer, rank, sure -/
section XAN
variable {m : Nat} {S : Nat → Nat} {I : Nat → Nat → Nat} {lo hi mk : Nat → Nat} {L : List Nat}
theorem zSu_ah {G : Nat → Nat → Int} (hS : zSu (zWc m S I lo hi mk) (zVc m S I mk) 24057 G) : ∀ r, r < zR (zWc m S I lo hi mk) 24057 → 0 ≤ G 168 r ∧ G 168 r < 4611686018427387904 := fun r hr => by
  obtain ⟨c, h1, h2, h3⟩ := zR_at 24057 hr
  have := (hS.2.2.1 c h1 h2).2
  have h4 := zTc_lt (m := m) (S := S) (I := I) (lo := lo) (hi := hi) (mk := mk) (c := c) (by omega)
  rw [h3] at this
  omega
/-- what is told of answer i -/
def zTP (m : Nat) (S : Nat → Nat) (I : Nat → Nat → Nat) (lo hi mk : Nat → Nat) (i u : Nat) (k x : Int) : Prop := (zT (zWc m S I lo hi mk) 24057 ≤ i ∧ x = -1) ∨ ∃ c, c < 24057 ∧ zT (zWc m S I lo hi mk) c ≤ i ∧ i < zT (zWc m S I lo hi mk) c + zWc m S I lo hi mk c ∧ x = zTl m S I mk c (i - zT (zWc m S I lo hi mk) c) u k
theorem c_an_told {i u : Nat} {k : Int} {G : Nat → Nat → Int} (hL : x_SL L) (hF : x_Fin xFL G) (hE : cEq m S I G) (hb : cBd lo hi mk G) (hrw : cRW L G) (hS : zSu (zWc m S I lo hi mk) (zVc m S I mk) 24057 G) (hi2 : i < 1000000000) (hu : u < 4) (hk : -1 ≤ k ∧ k < 2147483648) :
    CM yX1_told mX1_told 5 0 0 [vR 46, vR 4, vI i, vI u, vI k] L G (pTo L G (zTP m S I lo hi mk i u k)) := by
  obtain ⟨s1, s2, s3, s4⟩ := id hS
  have hTb := zTc_lt (m := m) (S := S) (I := I) (lo := lo) (hi := hi) (mk := mk) (c := 24057) (Nat.le_refl _)
  have hah := zSu_ah hS
  have hRa := zR_all (W := zWc m S I lo hi mk) (fun c h => zWc_v h) (Nat.le_refl 24057)
  by_cases hR : zR (zWc m S I lo hi mk) 24057 = 0
  · have hT0 : zT (zWc m S I lo hi mk) 24057 = 0 := by
      rcases Nat.eq_zero_or_pos (zT (zWc m S I lo hi mk) 24057) with e | e
      · exact e
      · have := zR_pos (W := zWc m S I lo hi mk) 24057 e; omega
    refine Ct.of_X (μ := mX1_told) rfl rfl (by decide) (fun h => by cases h) (Nat.le_of_ble_eq_true rfl) rfl ?_
    refine x_aloadn (pc := 0) dX1_told_0 rfl ?_
    refine x_iloadn (pc := 1) dX1_told_1 rfl ?_
    refine x_i2l (pc := 2) dX1_told_2 (by omega) ?_
    refine x_cVI (pc := 3) dX1_told_3 lk_X1_81 (c_an_rowOf0 hL (by omega)) k_46 ⟨by decide, rfl⟩ (hL 46 (by decide) (by decide)) (⟨by decide, by decide⟩) (Nat.le_of_ble_eq_true rfl) rfl ?_
    rintro x G' ⟨rfl, rfl⟩
    refine x_istore (pc := 6) dX1_told_6 (by decide) rfl ?_
    refine x_iloadn (pc := 8) dX1_told_8 rfl ?_
    refine x_ilt (tgt := 31) (pc := 9) dX1_told_9 (by decide) (by omega) (fun c_9 => ?_) (fun c_9 => ?_)
    · skip
      exact absurd c_9 (by omega)
    refine x_iloadn (pc := 12) dX1_told_12 rfl ?_
    refine x_i2l (pc := 13) dX1_told_13 (by omega) ?_
    refine x_aloadn (pc := 14) dX1_told_14 rfl ?_
    refine x_getL (pc := 15) dX1_told_15 fl_X1_54 k_46 (hL 46 (by decide) (by decide)) ?_
    refine x_lcmp (pc := 18) dX1_told_18 (by omega) ?_
    refine x_ige (tgt := 31) (pc := 19) dX1_told_19 (by decide) (zl_rg) (fun c_19 => ?_) (fun c_19 => ?_)
    rotate_left
    · skip
      have c_19 := zl_l c_19
      exact absurd c_19 (by omega)
    have c_19 := zl_ge c_19
    refine x_iconst (pc := 31) dX1_told_31 ?_
    refine x_rI (pc := 32) dX1_told_32 rfl ?_
    exact ⟨Or.inl ⟨by omega, rfl⟩, FR.rf, hF⟩
  · obtain ⟨c0, k1, k2, k3⟩ := zR_at (W := zWc m S I lo hi mk) (r := 0) 24057 (by omega)
    have h0 : G 168 0 ≤ i := by
      have := (s3 c0 k1 k2).2
      rw [k3] at this
      have h00 : zT (zWc m S I lo hi mk) c0 = 0 := by
        rcases Nat.eq_zero_or_pos (zT (zWc m S I lo hi mk) c0) with e | e
        · exact e
        · have := zR_pos (W := zWc m S I lo hi mk) c0 e; omega
      omega
    by_cases hlt : i < zT (zWc m S I lo hi mk) 24057
    · skip
      refine Ct.of_X (μ := mX1_told) rfl rfl (by decide) (fun h => by cases h) (Nat.le_of_ble_eq_true rfl) rfl ?_
      refine x_aloadn (pc := 0) dX1_told_0 rfl ?_
      refine x_iloadn (pc := 1) dX1_told_1 rfl ?_
      refine x_i2l (pc := 2) dX1_told_2 (by omega) ?_
      refine x_cVI (pc := 3) dX1_told_3 lk_X1_81 (c_an_rowOf (R := zR (zWc m S I lo hi mk) 24057) hL hF hrw s1 (by omega) hRa hah (by omega) h0) k_46 ⟨by decide, rfl⟩ (hL 46 (by decide) (by decide)) (⟨by decide, by decide⟩) (Nat.le_of_ble_eq_true rfl) rfl ?_
      rintro x G' ⟨⟨r, rfl, r1, r2, r3⟩, hG⟩
      subst hG
      refine x_istore (pc := 6) dX1_told_6 (by decide) rfl ?_
      refine x_iloadn (pc := 8) dX1_told_8 rfl ?_
      refine x_ilt (tgt := 31) (pc := 9) dX1_told_9 (by decide) (by omega) (fun c_9 => ?_) (fun c_9 => ?_)
      · skip
        exact absurd c_9 (by omega)
      refine x_iloadn (pc := 12) dX1_told_12 rfl ?_
      refine x_i2l (pc := 13) dX1_told_13 (by omega) ?_
      refine x_aloadn (pc := 14) dX1_told_14 rfl ?_
      refine x_getL (pc := 15) dX1_told_15 fl_X1_54 k_46 (hL 46 (by decide) (by decide)) ?_
      refine x_lcmp (pc := 18) dX1_told_18 (by omega) ?_
      refine x_ige (tgt := 31) (pc := 19) dX1_told_19 (by decide) (zl_rg) (fun c_19 => ?_) (fun c_19 => ?_)
      · skip
        have c_19 := zl_ge c_19
        exact absurd c_19 (by omega)
      have c_19 := zl_l c_19
      refine x_iload (pc := 22) dX1_told_22 rfl ?_
      refine x_aloadn (pc := 24) dX1_told_24 rfl ?_
      refine x_getI (pc := 25) dX1_told_25 fl_X1_50 k_46 (hL 46 (by decide) (by decide)) ?_
      refine x_clt (tgt := 33) (pc := 28) dX1_told_28 (by decide) (by omega) (fun c_28 => ?_) (fun c_28 => ?_)
      rotate_left
      · skip
        exact absurd c_28 (by omega)
      obtain ⟨c, q1, q2, q3⟩ := zR_at 24057 r1
      have t1 := (s3 c q1 q2).2
      rw [q3] at t1
      have hlow : zT (zWc m S I lo hi mk) c ≤ i := by omega
      have hhigh : i < zT (zWc m S I lo hi mk) c + zWc m S I lo hi mk c := by
        rcases r3 with r3 | r3
        · have := zR_T (W := zWc m S I lo hi mk) q1 q2 (by omega); omega
        · by_cases e : r + 1 = zR (zWc m S I lo hi mk) 24057
          · have := zR_T (W := zWc m S I lo hi mk) q1 q2 (by omega); omega
          · obtain ⟨c2, w1, w2, w3⟩ := zR_at 24057 (show r + 1 < zR (zWc m S I lo hi mk) 24057 by omega)
            have t2 := (s3 c2 w1 w2).2
            rw [w3] at t2
            have hcc := zR_inc (W := zWc m S I lo hi mk) (a := c) (b := c2) (by omega)
            have := zR_T (W := zWc m S I lo hi mk) hcc q2 (by omega)
            omega
      refine X.imp (fun v L' G1 => ?_) (l_an_told (u := u) (k := k) hL hF hE hb hrw hS q1 q2 q3.symm hlow hi2 hu hk rfl)
      rintro ⟨rfl, x, rfl, b1, b2⟩
      exact ⟨rfl, x, rfl, Or.inr ⟨c, q1, hlow, hhigh, b1⟩, b2⟩
    · skip
      refine Ct.of_X (μ := mX1_told) rfl rfl (by decide) (fun h => by cases h) (Nat.le_of_ble_eq_true rfl) rfl ?_
      refine x_aloadn (pc := 0) dX1_told_0 rfl ?_
      refine x_iloadn (pc := 1) dX1_told_1 rfl ?_
      refine x_i2l (pc := 2) dX1_told_2 (by omega) ?_
      refine x_cVI (pc := 3) dX1_told_3 lk_X1_81 (c_an_rowOf (R := zR (zWc m S I lo hi mk) 24057) hL hF hrw s1 (by omega) hRa hah (by omega) h0) k_46 ⟨by decide, rfl⟩ (hL 46 (by decide) (by decide)) (⟨by decide, by decide⟩) (Nat.le_of_ble_eq_true rfl) rfl ?_
      rintro x G' ⟨⟨r, rfl, r1, r2, r3⟩, hG⟩
      subst hG
      refine x_istore (pc := 6) dX1_told_6 (by decide) rfl ?_
      refine x_iloadn (pc := 8) dX1_told_8 rfl ?_
      refine x_ilt (tgt := 31) (pc := 9) dX1_told_9 (by decide) (by omega) (fun c_9 => ?_) (fun c_9 => ?_)
      · skip
        exact absurd c_9 (by omega)
      refine x_iloadn (pc := 12) dX1_told_12 rfl ?_
      refine x_i2l (pc := 13) dX1_told_13 (by omega) ?_
      refine x_aloadn (pc := 14) dX1_told_14 rfl ?_
      refine x_getL (pc := 15) dX1_told_15 fl_X1_54 k_46 (hL 46 (by decide) (by decide)) ?_
      refine x_lcmp (pc := 18) dX1_told_18 (by omega) ?_
      refine x_ige (tgt := 31) (pc := 19) dX1_told_19 (by decide) (zl_rg) (fun c_19 => ?_) (fun c_19 => ?_)
      rotate_left
      · skip
        have c_19 := zl_l c_19
        exact absurd c_19 (by omega)
      have c_19 := zl_ge c_19
      refine x_iconst (pc := 31) dX1_told_31 ?_
      refine x_rI (pc := 32) dX1_told_32 rfl ?_
      exact ⟨Or.inl ⟨by omega, rfl⟩, FR.rf, hF⟩
/-! rank -/
def zcc (t : Nat → Nat) : Nat := 729 * (t 0 + t 1 + t 2 + t 3) + 81 * t 0 + 9 * t 1 + t 2
theorem zcc_z {t : Nat → Nat} (h : ∀ u, u < 4 → t u ≤ 8) : (∀ u, u < 4 → zcz (zcc t) u = t u) ∧ zcv (zcc t) ∧ zcc t < 24057 := by
  have a0 := h 0 (by decide); have a1 := h 1 (by decide); have a2 := h 2 (by decide); have a3 := h 3 (by decide)
  obtain ⟨e0, e1, e2, e3, e4, e5⟩ := zcz_mk (t := t 0 + t 1 + t 2 + t 3) a0 a1 a2
  have hc : zcc t = 729 * (t 0 + t 1 + t 2 + t 3) + 81 * t 0 + 9 * t 1 + t 2 := rfl
  rw [← hc] at e0 e1 e2 e3 e4 e5
  refine ⟨fun u hu => ?_, ?_, by omega⟩
  · rcases (show u = 0 ∨ u = 1 ∨ u = 2 ∨ u = 3 by omega) with rfl | rfl | rfl | rfl
    · exact e0
    · exact e1
    · exact e2
    · rw [e3]; omega
  · unfold zcv; rw [e4, e5]; omega
theorem zcc_u {c c' : Nat} (h : zcv c) (h' : zcv c') (e : ∀ u, u < 4 → zcz c u = zcz c' u) : c = c' := by
  have a := zcz_v h
  have b := zcz_v h'
  have e0 := e 0 (by decide); have e1 := e 1 (by decide); have e2 := e 2 (by decide); have e3 := e 3 (by decide)
  omega
theorem zc4_cg {z z' : Nat → Nat} (e : ∀ u, u < 4 → z u = z' u) : zc4 z = zc4 z' := by
  unfold zc4
  rw [e 0 (by decide), e 1 (by decide), e 2 (by decide), e 3 (by decide)]
/-- the rank of the words told -/
def zRP (m : Nat) (S : Nat → Nat) (I : Nat → Nat → Nat) (lo hi mk : Nat → Nat) (tw : Nat → Int) (tn : Nat → Nat) (x : Int) : Prop := ((zWc m S I lo hi mk (zcc tn) = 0 ∨ ¬ zoks m S I (zcz (zcc tn)) mk (zTp (zcz (zcc tn)) tw) (zbg (zcz (zcc tn)) 4)) ∧ x = -1) ∨ ((0 < zWc m S I lo hi mk (zcc tn) ∧ zoks m S I (zcz (zcc tn)) mk (zTp (zcz (zcc tn)) tw) (zbg (zcz (zcc tn)) 4)) ∧ x = ((zT (zWc m S I lo hi mk) (zcc tn) + zrk m S I (zcz (zcc tn)) mk (zTp (zcz (zcc tn)) tw) (zbg (zcz (zcc tn)) 4) : Nat) : Int))
abbrev pRH (L : List Nat) (G0 : Nat → Nat → Int) (P : Int → Prop) : x_Q := qL L fun x G' => P x ∧ FR zfiS G0 G' ∧ x_Fin xFL G'
theorem l_an_rh {tw : Nat → Int} {tn : Nat → Nat} {c : Nat} {G : Nat → Nat → Int} {o4 o5 : Option (Nat × Int)} (hL : x_SL L) (hF : x_Fin xFL G) (hE : cEq m S I G) (hb : cBd lo hi mk G) (hrw : cRW L G) (hS : zSu (zWc m S I lo hi mk) (zVc m S I mk) 24057 G) (hT : cTd tw tn G) (hc : c = zcc tn) (hW : 0 < zWc m S I lo hi mk c) :
    X mX1_rankOfHeard 5 0 0 (pRH L G (zRP m S I lo hi mk tw tn)) 51 [some (vR 46), some (vR 4), some (vI (zc4 (zcz c))), some (vI (zR (zWc m S I lo hi mk) c)), o4, o5] [] L G 0 0 := by
  obtain ⟨⟨hL_167, hL_168⟩, h9, h10⟩ := id hrw
  obtain ⟨d1, d2, d3⟩ := zcc_z (t := tn) (fun u hu => (hT u hu).2.2.1)
  rw [← hc] at d1 d2 d3
  have hz8 := (zcz_v d2).1
  have hV := hE.EV
  have hB := zbz_of hW
  obtain ⟨s1, s2, s3, s4⟩ := id hS
  obtain ⟨t1, t2⟩ := s3 c d3 hW
  have hR := zR_6561 (W := zWc m S I lo hi mk) (fun c h => zWc_v h) d3 d2
  have hWy := zWc_y (m := m) (S := S) (I := I) (lo := lo) (hi := hi) (mk := mk) d2
  have hTb := zTc_lt (m := m) (S := S) (I := I) (lo := lo) (hi := hi) (mk := mk) (c := c) (by omega)
  refine x_aloadn (pc := 51) dX1_rankOfHeard_51 rfl ?_
  refine x_getR (55) (pc := 52) dX1_rankOfHeard_52 fl_X1_39 k_46 (hL 46 (by decide) (by decide)) (f_46_8 hF) ?_
  refine x_iloadn (pc := 55) dX1_rankOfHeard_55 rfl ?_
  refine x_cVV (pc := 56) dX1_rankOfHeard_56 lk_X1_85 (c_fi_lay (z := zcz c) hL hF hz8) k_55 ⟨by decide, rfl⟩ (hL 55 (by decide) (by decide)) (⟨by decide, by decide⟩) (Nat.le_of_ble_eq_true rfl) rfl ?_
  rintro G1 ⟨a1, a2, hF⟩
  have hE1 := hE.FR a2 (by decide)
  have hb1 := hb.FR a2 (by decide) (by decide) (by decide)
  refine x_aloadn (pc := 59) dX1_rankOfHeard_59 rfl ?_
  refine x_getR (55) (pc := 60) dX1_rankOfHeard_60 fl_X1_39 k_46 (hL 46 (by decide) (by decide)) (f_46_8 hF) ?_
  refine x_aloadn (pc := 63) dX1_rankOfHeard_63 rfl ?_
  refine x_aloadn (pc := 64) dX1_rankOfHeard_64 rfl ?_
  refine x_getR (49) (pc := 65) dX1_rankOfHeard_65 fl_X1_18 k_46 (hL 46 (by decide) (by decide)) (f_46_2 hF) ?_
  refine x_cVI (pc := 68) dX1_rankOfHeard_68 lk_X1_93 (c_fi_solves hL hF hE1 a1 hb1) k_55 ⟨by decide, rfl⟩ (hL 55 (by decide) (by decide)) (⟨by decide, by decide⟩) (Nat.le_of_ble_eq_true rfl) rfl ?_
  rintro x G2 ⟨hx, b1, hF⟩
  have hq2 : FR zfiS _ G2 := (a2.mono (by decide)).tr (b1.mono (by decide))
  have hx1 : x = 1 ∧ zLn m S I (zcz c) ∧ ¬ zDd (zE m S I (zcz c)) (zba (zcz c) mk) ∧ cSv m S I (zcz c) mk G2 := by
    rcases hx with hx | hx
    · exact hx
    · have := zWn (lo := lo) (hi := hi) hV hz8 hx.2
      rw [← hWy] at this; omega
  refine x_ine (tgt := 78) (pc := 71) dX1_rankOfHeard_71 (by decide) (by omega) (fun c_71 => ?_) (fun c_71 => ?_)
  rotate_left
  · skip
    exact absurd c_71 (by omega)
  have hsw := hx1.2.2.2.sw
  have hz2 := a1.FR b1 (by decide) (by decide) (by decide)
  have hT2 : ∀ u, u < 4 → G2 50 u = tw u ∧ (-2147483648 ≤ tw u ∧ tw u < 2147483648) ∧ zgood (tw u) (zcz c u) := fun u hu => by
    rw [d1 u hu]
    exact ⟨by rw [hq2 _ (by decide)]; exact (hT u hu).1, (hT u hu).2.2.2.1, (hT u hu).2.2.2.2⟩
  refine x_aloadn (pc := 78) dX1_rankOfHeard_78 rfl ?_
  refine x_getR (55) (pc := 79) dX1_rankOfHeard_79 fl_X1_39 k_46 (hL 46 (by decide) (by decide)) (f_46_8 hF) ?_
  refine x_aloadn (pc := 82) dX1_rankOfHeard_82 rfl ?_
  refine x_getR (50) (pc := 83) dX1_rankOfHeard_83 fl_X1_21 k_46 (hL 46 (by decide) (by decide)) (f_46_3 hF) ?_
  refine x_cVL (pc := 86) dX1_rankOfHeard_86 lk_X1_111 (c_fi_rankOf hL hF hz2 hsw hT2) k_55 ⟨by decide, rfl⟩ (hL 55 (by decide) (by decide)) (⟨by decide, by decide⟩) (Nat.le_of_ble_eq_true rfl) rfl ?_
  rintro y G3 ⟨hy, e1, hF⟩
  have hq3 : FR zfiS _ G3 := hq2.tr (e1.mono (by decide))
  have g10 : G3 46 10 = ((168 : Nat) : Int) := by rw [hq3 _ (by decide)]; exact h10
  have g168 : G3 168 (zR (zWc m S I lo hi mk) c) = zT (zWc m S I lo hi mk) c := by rw [hq3 _ (by decide)]; exact t2
  have hrk := zrk_le (m := m) (S := S) (I := I) (z := zcz c) (mk := mk) (T := zTp (zcz c) tw) (zbg (zcz c) 4) (fun p hp => zTp_3 (fun u hu => (hT2 u hu).2.2) hp)
  have hN := zbg_4 hz8 4 (Nat.le_refl _)
  have h332 : 3 ^ zbg (zcz c) 4 ≤ 3 ^ 32 := Nat.pow_le_pow_right (by decide) hN
  refine x_lstore (pc := 89) dX1_rankOfHeard_89 (by decide) rfl ?_
  refine x_lload (pc := 91) dX1_rankOfHeard_91 rfl ?_
  refine x_ldc2 (pc := 93) dX1_rankOfHeard_93 co_X1_109 ?_
  refine x_lcmp (pc := 96) dX1_rankOfHeard_96 (by rcases hy with hy | hy <;> omega) ?_
  refine x_ine (tgt := 106) (pc := 97) dX1_rankOfHeard_97 (by decide) (zl_rg) (fun c_97 => ?_) (fun c_97 => ?_)
  · skip
    have c_97 := zl_n c_97
    refine x_aloadn (pc := 106) dX1_rankOfHeard_106 rfl ?_
    refine x_getR (168) (pc := 107) dX1_rankOfHeard_107 fl_X1_46 k_46 (hL 46 (by decide) (by decide)) g10 ?_
    refine x_iloadn (pc := 110) dX1_rankOfHeard_110 rfl ?_
    refine x_lald (zR (zWc m S I lo hi mk) c) (pc := 111) dX1_rankOfHeard_111 k_168 hL_168 (⟨by omega, by omega, by decide⟩) ?_
    rw [g168]
    refine x_lload (pc := 112) dX1_rankOfHeard_112 rfl ?_
    refine x_ladd (pc := 114) dX1_rankOfHeard_114 ?_
    refine x_rL (pc := 115) dX1_rankOfHeard_115 rfl ?_
    refine ⟨?_, hq3, hF⟩
    unfold zRP
    rw [← hc]
    rcases hy with ⟨hy1, hy2⟩ | ⟨hy1, hy2⟩
    · first
      | exact Or.inr ⟨⟨hW, hy2⟩, by rw [hy1]; rfl⟩
      | (exfalso; omega)
    · first
      | exact Or.inl ⟨Or.inr hy2, rfl⟩
      | (exfalso; omega)
  · skip
    have c_97 := zl_e c_97
    refine x_ldc2 (pc := 100) dX1_rankOfHeard_100 co_X1_109 ?_
    refine x_goto (tgt := 115) (pc := 103) dX1_rankOfHeard_103 (by decide) ?_
    refine x_rL (pc := 115) dX1_rankOfHeard_115 rfl ?_
    refine ⟨?_, hq3, hF⟩
    unfold zRP
    rw [← hc]
    rcases hy with ⟨hy1, hy2⟩ | ⟨hy1, hy2⟩
    · first
      | exact Or.inr ⟨⟨hW, hy2⟩, by rw [hy1]; rfl⟩
      | (exfalso; omega)
    · first
      | exact Or.inl ⟨Or.inr hy2, rfl⟩
      | (exfalso; omega)
theorem l_an_rhL {tw : Nat → Int} {tn : Nat → Nat} {c : Nat} {G : Nat → Nat → Int} (hL : x_SL L) (hF : x_Fin xFL G) (hE : cEq m S I G) (hb : cBd lo hi mk G) (hrw : cRW L G) (hS : zSu (zWc m S I lo hi mk) (zVc m S I mk) 24057 G) (hT : cTd tw tn G) (hc : c = zcc tn) :
    ∀ (k r : Nat), r + k = zR (zWc m S I lo hi mk) 24057 → (0 < zWc m S I lo hi mk c → r ≤ zR (zWc m S I lo hi mk) c) →
    X mX1_rankOfHeard 5 0 0 (pRH L G (zRP m S I lo hi mk tw tn)) 30 [some (vR 46), some (vR 4), some (vI (zc4 (zcz c))), some (vI r), none, none] [] L G 0 0 := by
  obtain ⟨⟨hL_167, hL_168⟩, h9, h10⟩ := id hrw
  obtain ⟨d1, d2, d3⟩ := zcc_z (t := tn) (fun u hu => (hT u hu).2.2.1)
  rw [← hc] at d1 d2 d3
  have hz8 := (zcz_v d2).1
  obtain ⟨s1, s2, s3, s4⟩ := id hS
  have hRa := zR_all (W := zWc m S I lo hi mk) (fun c h => zWc_v h) (Nat.le_refl 24057)
  intro k
  induction k with
  | zero =>
    intro r hr hle
    have hW0 : zWc m S I lo hi mk c = 0 := by
      rcases Nat.eq_zero_or_pos (zWc m S I lo hi mk c) with e | e
      · exact e
      · have := hle e; have := zR_lt (W := zWc m S I lo hi mk) d3 e; omega
    refine x_iloadn (pc := 30) dX1_rankOfHeard_30 rfl ?_
    refine x_aloadn (pc := 31) dX1_rankOfHeard_31 rfl ?_
    refine x_getI (pc := 32) dX1_rankOfHeard_32 fl_X1_50 k_46 (hL 46 (by decide) (by decide)) ?_
    refine x_cge (tgt := 122) (pc := 35) dX1_rankOfHeard_35 (by decide) (by omega) (fun c_35 => ?_) (fun c_35 => ?_)
    rotate_left
    · skip
      exact absurd c_35 (by omega)
    refine x_ldc2 (pc := 122) dX1_rankOfHeard_122 co_X1_109 ?_
    refine x_rL (pc := 125) dX1_rankOfHeard_125 rfl ?_
    exact ⟨Or.inl ⟨Or.inl (by rw [← hc]; exact hW0), rfl⟩, FR.rf, hF⟩
  | succ k ih =>
    intro r hr hle
    obtain ⟨c', q1, q2, q3⟩ := zR_at 24057 (show r < zR (zWc m S I lo hi mk) 24057 by omega)
    have t1 := (s3 c' q1 q2).1
    rw [q3] at t1
    have hv' := zWc_v q2
    have hz8' := (zcz_v hv').1
    have hcb : zc4 (zcz c) < 65536 := by
      have := hz8 0 (by decide); have := hz8 1 (by decide); have := hz8 2 (by decide); have := hz8 3 (by decide)
      unfold zc4; omega
    have hcb' : zc4 (zcz c') < 65536 := by
      have := hz8' 0 (by decide); have := hz8' 1 (by decide); have := hz8' 2 (by decide); have := hz8' 3 (by decide)
      unfold zc4; omega
    by_cases e : c' = c
    · subst e
      refine x_iloadn (pc := 30) dX1_rankOfHeard_30 rfl ?_
      refine x_aloadn (pc := 31) dX1_rankOfHeard_31 rfl ?_
      refine x_getI (pc := 32) dX1_rankOfHeard_32 fl_X1_50 k_46 (hL 46 (by decide) (by decide)) ?_
      refine x_cge (tgt := 122) (pc := 35) dX1_rankOfHeard_35 (by decide) (by omega) (fun c_35 => ?_) (fun c_35 => ?_)
      · skip
        exact absurd c_35 (by omega)
      refine x_aloadn (pc := 38) dX1_rankOfHeard_38 rfl ?_
      refine x_getR (167) (pc := 39) dX1_rankOfHeard_39 fl_X1_43 k_46 (hL 46 (by decide) (by decide)) h9 ?_
      refine x_iloadn (pc := 42) dX1_rankOfHeard_42 rfl ?_
      refine x_iald (r) (pc := 43) dX1_rankOfHeard_43 k_167 hL_167 (⟨by omega, by omega, by decide⟩) ?_
      rw [t1]
      refine x_iloadn (pc := 44) dX1_rankOfHeard_44 rfl ?_
      refine x_ceq (tgt := 51) (pc := 45) dX1_rankOfHeard_45 (by decide) (by omega) (fun c_45 => ?_) (fun c_45 => ?_)
      rotate_left
      · skip
        exact absurd rfl c_45
      rw [← q3]
      exact l_an_rh hL hF hE hb hrw hS hT hc q2
    · have hne : zc4 (zcz c') ≠ zc4 (zcz c) := fun w => e (zcc_u hv' d2 (zc4_inj hz8' hz8 w))
      refine x_iloadn (pc := 30) dX1_rankOfHeard_30 rfl ?_
      refine x_aloadn (pc := 31) dX1_rankOfHeard_31 rfl ?_
      refine x_getI (pc := 32) dX1_rankOfHeard_32 fl_X1_50 k_46 (hL 46 (by decide) (by decide)) ?_
      refine x_cge (tgt := 122) (pc := 35) dX1_rankOfHeard_35 (by decide) (by omega) (fun c_35 => ?_) (fun c_35 => ?_)
      · skip
        exact absurd c_35 (by omega)
      refine x_aloadn (pc := 38) dX1_rankOfHeard_38 rfl ?_
      refine x_getR (167) (pc := 39) dX1_rankOfHeard_39 fl_X1_43 k_46 (hL 46 (by decide) (by decide)) h9 ?_
      refine x_iloadn (pc := 42) dX1_rankOfHeard_42 rfl ?_
      refine x_iald (r) (pc := 43) dX1_rankOfHeard_43 k_167 hL_167 (⟨by omega, by omega, by decide⟩) ?_
      rw [t1]
      refine x_iloadn (pc := 44) dX1_rankOfHeard_44 rfl ?_
      refine x_ceq (tgt := 51) (pc := 45) dX1_rankOfHeard_45 (by decide) (by omega) (fun c_45 => ?_) (fun c_45 => ?_)
      · skip
        exact absurd c_45 (by omega)
      refine x_goto (tgt := 116) (pc := 48) dX1_rankOfHeard_48 (by decide) ?_
      refine x_iinc (pc := 116) dX1_rankOfHeard_116 rfl (by decide) rfl ?_
      refine x_goto (tgt := 30) (pc := 119) dX1_rankOfHeard_119 (by decide) ?_
      refine ih (r + 1) (by omega) (fun hW => ?_)
      have h1 := hle hW
      rcases Nat.lt_or_ge r (zR (zWc m S I lo hi mk) c) with w | w
      · exact w
      · exfalso
        rcases Nat.lt_trichotomy c c' with v | v | v
        · have := zR_lt v hW; omega
        · exact e v.symm
        · have := zR_lt v q2; omega
theorem c_an_rankOf {tw : Nat → Int} {tn : Nat → Nat} {G : Nat → Nat → Int} (hL : x_SL L) (hF : x_Fin xFL G) (hE : cEq m S I G) (hb : cBd lo hi mk G) (hrw : cRW L G) (hS : zSu (zWc m S I lo hi mk) (zVc m S I mk) 24057 G) (hT : cTd tw tn G) :
    CM yX1_rankOfHeard mX1_rankOfHeard 5 0 0 [vR 46, vR 4] L G (pRH L G (zRP m S I lo hi mk tw tn)) := by
  obtain ⟨d1, d2, d3⟩ := zcc_z (t := tn) (fun u hu => (hT u hu).2.2.1)
  have t0 := hT 0 (by decide)
  have t1 := hT 1 (by decide)
  have t2 := hT 2 (by decide)
  have t3 := hT 3 (by decide)
  have hcode : 4096 * tn 0 + 256 * tn 1 + 16 * tn 2 + tn 3 = zc4 (zcz (zcc tn)) := (zc4_cg d1).symm
  refine Ct.of_X (μ := mX1_rankOfHeard) rfl rfl (by decide) (fun h => by cases h) (Nat.le_of_ble_eq_true rfl) rfl ?_
  refine x_aloadn (pc := 0) dX1_rankOfHeard_0 rfl ?_
  refine x_getR (51) (pc := 1) dX1_rankOfHeard_1 fl_X1_24 k_46 (hL 46 (by decide) (by decide)) (f_46_4 hF) ?_
  refine x_iconst (pc := 4) dX1_rankOfHeard_4 ?_
  refine x_iald (0) (pc := 5) dX1_rankOfHeard_5 k_51 (hL 51 (by decide) (by decide)) (⟨rfl, by decide, by decide⟩) ?_
  rw [t0.2.1]
  refine x_aloadn (pc := 6) dX1_rankOfHeard_6 rfl ?_
  refine x_getR (51) (pc := 7) dX1_rankOfHeard_7 fl_X1_24 k_46 (hL 46 (by decide) (by decide)) (f_46_4 hF) ?_
  refine x_iconst (pc := 10) dX1_rankOfHeard_10 ?_
  refine x_iald (1) (pc := 11) dX1_rankOfHeard_11 k_51 (hL 51 (by decide) (by decide)) (⟨rfl, by decide, by decide⟩) ?_
  rw [t1.2.1]
  refine x_aloadn (pc := 12) dX1_rankOfHeard_12 rfl ?_
  refine x_getR (51) (pc := 13) dX1_rankOfHeard_13 fl_X1_24 k_46 (hL 46 (by decide) (by decide)) (f_46_4 hF) ?_
  refine x_iconst (pc := 16) dX1_rankOfHeard_16 ?_
  refine x_iald (2) (pc := 17) dX1_rankOfHeard_17 k_51 (hL 51 (by decide) (by decide)) (⟨rfl, by decide, by decide⟩) ?_
  rw [t2.2.1]
  refine x_aloadn (pc := 18) dX1_rankOfHeard_18 rfl ?_
  refine x_getR (51) (pc := 19) dX1_rankOfHeard_19 fl_X1_24 k_46 (hL 46 (by decide) (by decide)) (f_46_4 hF) ?_
  refine x_iconst (pc := 22) dX1_rankOfHeard_22 ?_
  refine x_iald (3) (pc := 23) dX1_rankOfHeard_23 k_51 (hL 51 (by decide) (by decide)) (⟨rfl, by decide, by decide⟩) ?_
  rw [t3.2.1]
  refine x_cSI (pc := 24) dX1_rankOfHeard_24 lk_X1_105 (c_an_codeOf (w := tn 0) (x := tn 1) (y := tn 2) (u := tn 3) t0.2.2.1 t1.2.2.1 t2.2.2.1 t3.2.2.1) (⟨by decide, by decide⟩) (Nat.le_of_ble_eq_true rfl) rfl ?_
  rintro x G' ⟨rfl, rfl⟩
  rw [hcode]
  refine x_istoren (pc := 27) dX1_rankOfHeard_27 rfl (by decide) rfl ?_
  refine x_iconst (pc := 28) dX1_rankOfHeard_28 ?_
  refine x_istoren (pc := 29) dX1_rankOfHeard_29 rfl (by decide) rfl ?_
  exact l_an_rhL hL hF hE hb hrw hS hT rfl (zR (zWc m S I lo hi mk) 24057) 0 (by omega) (fun _ => Nat.zero_le _)
theorem c_an_sureL {u k : Nat} {G : Nat → Nat → Int} (hL : x_SL L) (hF : x_Fin xFL G) (hS : zSu (zWc m S I lo hi mk) (zVc m S I mk) 24057 G) (hu : u < 4) (hk : k < 8) :
    CM yX1_sureLetter mX1_sureLetter 0 0 0 [vR 46, vI u, vI k] L G (qI L fun x G' => x = (if zsr (zWc m S I lo hi mk) (zVc m S I mk (8 * u + k)) 24057 = -2 then -1 else zsr (zWc m S I lo hi mk) (zVc m S I mk (8 * u + k)) 24057) ∧ G' = G) := by
  have s4 := hS.2.2.2 (8 * u + k) (by omega)
  have hb := zsr_bd (W := zWc m S I lo hi mk) (V := zVc m S I mk (8 * u + k)) (fun _ => zol_bd) 24057
  have hcell : (u : Int) * 8 + (k : Int) = ((8 * u + k : Nat) : Int) := by omega
  refine Ct.of_X (μ := mX1_sureLetter) rfl rfl (by decide) (fun h => by cases h) (Nat.le_of_ble_eq_true rfl) rfl ?_
  refine x_iloadn (pc := 0) dX1_sureLetter_0 rfl ?_
  refine x_bipush (pc := 1) dX1_sureLetter_1 (by decide) ?_
  refine x_imul (pc := 3) dX1_sureLetter_3 ?_
  refine x_iloadn (pc := 4) dX1_sureLetter_4 rfl ?_
  refine x_iadd (pc := 5) dX1_sureLetter_5 ?_
  rw [hcell]
  refine x_istoren (pc := 6) dX1_sureLetter_6 rfl (by decide) rfl ?_
  refine x_iloadn (pc := 7) dX1_sureLetter_7 rfl ?_
  refine x_ilt (tgt := 31) (pc := 8) dX1_sureLetter_8 (by decide) (by omega) (fun c_8 => ?_) (fun c_8 => ?_)
  · skip
    exact absurd c_8 (by omega)
  refine x_iloadn (pc := 11) dX1_sureLetter_11 rfl ?_
  refine x_aloadn (pc := 12) dX1_sureLetter_12 rfl ?_
  refine x_getR (54) (pc := 13) dX1_sureLetter_13 fl_X1_33 k_46 (hL 46 (by decide) (by decide)) (f_46_7 hF) ?_
  refine x_alen (pc := 16) dX1_sureLetter_16 k_54 (by decide) (hL 54 (by decide) (by decide)) ?_
  refine x_cge (tgt := 31) (pc := 17) dX1_sureLetter_17 (by decide) (by omega) (fun c_17 => ?_) (fun c_17 => ?_)
  · skip
    exact absurd c_17 (by omega)
  refine x_aloadn (pc := 20) dX1_sureLetter_20 rfl ?_
  refine x_getR (54) (pc := 21) dX1_sureLetter_21 fl_X1_33 k_46 (hL 46 (by decide) (by decide)) (f_46_7 hF) ?_
  refine x_iloadn (pc := 24) dX1_sureLetter_24 rfl ?_
  refine x_iald (8 * u + k) (pc := 25) dX1_sureLetter_25 k_54 (hL 54 (by decide) (by decide)) (⟨by omega, by omega, by decide⟩) ?_
  rw [s4]
  refine x_bipush (pc := 26) dX1_sureLetter_26 (by decide) ?_
  refine x_cne (tgt := 33) (pc := 28) dX1_sureLetter_28 (by decide) (by omega) (fun c_28 => ?_) (fun c_28 => ?_)
  · skip
    refine x_aloadn (pc := 33) dX1_sureLetter_33 rfl ?_
    refine x_getR (54) (pc := 34) dX1_sureLetter_34 fl_X1_33 k_46 (hL 46 (by decide) (by decide)) (f_46_7 hF) ?_
    refine x_iloadn (pc := 37) dX1_sureLetter_37 rfl ?_
    refine x_iald (8 * u + k) (pc := 38) dX1_sureLetter_38 k_54 (hL 54 (by decide) (by decide)) (⟨by omega, by omega, by decide⟩) ?_
    rw [s4]
    refine x_rI (pc := 39) dX1_sureLetter_39 rfl ?_
    exact ⟨by rw [if_neg c_28], rfl⟩
  · skip
    refine x_iconst (pc := 31) dX1_sureLetter_31 ?_
    refine x_rI (pc := 32) dX1_sureLetter_32 rfl ?_
    exact ⟨by rw [if_pos c_28], rfl⟩
end XAN

