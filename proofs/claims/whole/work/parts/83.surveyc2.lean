/-! the class: a row added, all rows of one length together -/
section XSV
variable {m : Nat} {S : Nat → Nat} {I : Nat → Nat → Nat} {lo hi mk mo : Nat → Nat} {L : List Nat}
abbrev zarS : List Nat := [46, 54, 55, 56, 57, 58, 59, 60, 62, 63, 167, 168]
theorem zWn {z : Nat → Nat} (hV : zEV m S I) (hz : ∀ u, u < 4 → z u ≤ 8) (h : ¬ (zLn m S I z ∧ ¬ zDd (zE m S I z) (zba z mk))) : zWy m S I lo hi mk z = 0 := by
  by_cases hl : zLn m S I z
  · have hd : zDd (zE m S I z) (zba z mk) := Classical.byContradiction fun w => h ⟨hl, w⟩
    exact zW_dead hV hl hz hd
  · unfold zWy; rw [if_neg (fun w => hl w.2.1)]
theorem zT_b {t n : Nat} {W : Nat → Nat} (hW : ∀ c, 0 < W c → zcv c) (hW3 : ∀ c, zcv c → W c ≤ 3 ^ (c / 729)) : n ≤ 729 → zT W (729 * t + n) ≤ zT W (729 * t) + zvr (729 * t) n * 3 ^ t := by
  induction n with
  | zero => intro _; rw [Nat.add_zero]; omega
  | succ n ih =>
    intro hn
    have ih := ih (by omega)
    have e : zvr (729 * t) (n + 1) = zvr (729 * t) n + (match zvb (729 * t + n) with
      | true => 1
      | false => 0) := rfl
    have e2 : zT W (729 * t + (n + 1)) = zT W (729 * t + n) + W (729 * t + n) := rfl
    have e3 : (729 * t + n) / 729 = t := by omega
    rw [e, e2, Nat.add_mul]
    by_cases c : zcv (729 * t + n)
    · rw [zvb_iff.mpr c]
      have := hW3 _ c
      rw [e3] at this
      simp only [Nat.one_mul]
      omega
    · have : W (729 * t + n) = 0 := by
        rcases Nat.eq_zero_or_pos (W (729 * t + n)) with q | q
        · exact q
        · exact absurd (hW _ q) c
      omega
def zvq : Nat → Nat
  | 0 => 0
  | t + 1 => zvq t + zvr (729 * t) 729 * 3 ^ t
theorem zvq_33 : zvq 33 < 4611686018427387904 := by decide +kernel
theorem zT_vq {W : Nat → Nat} (hW : ∀ c, 0 < W c → zcv c) (hW3 : ∀ c, zcv c → W c ≤ 3 ^ (c / 729)) : ∀ t, zT W (729 * t) ≤ zvq t
  | 0 => Nat.le_refl _
  | t + 1 => by
    have h := zT_b (t := t) (n := 729) hW hW3 (Nat.le_refl _)
    have ih := zT_vq hW hW3 t
    rw [show 729 * (t + 1) = 729 * t + 729 by omega, zvq]
    omega
theorem zbg_sum (z : Nat → Nat) : zbg z 4 = z 0 + z 1 + z 2 + z 3 := by
  show 0 + z 0 + z 1 + z 2 + z 3 = _
  omega
theorem zWc_3 {c : Nat} (h : zcv c) : zWc m S I lo hi mk c ≤ 3 ^ (c / 729) := by
  rw [zWc_y h]
  refine Nat.le_trans zWy_le (Nat.pow_le_pow_right (by decide) ?_)
  rw [zbg_sum, (zcz_v h).2.1]; exact Nat.le_refl _
theorem zTc_lt {c : Nat} (hc : c ≤ 24057) : zT (zWc m S I lo hi mk) c < 4611686018427387904 := by
  have h1 := zT_mono (W := zWc m S I lo hi mk) (729 * 33) (show c ≤ 729 * 33 by omega)
  have h2 := zT_vq (W := zWc m S I lo hi mk) (fun c h => zWc_v h) (fun c h => zWc_3 h) 33
  have := zvq_33
  omega
abbrev pAr (L : List Nat) (G0 : Nat → Nat → Int) (m : Nat) (S : Nat → Nat) (I : Nat → Nat → Nat) (lo hi mk : Nat → Nat) (c : Nat) : x_Q := qV L fun G' => zSu (zWc m S I lo hi mk) (zVc m S I mk) c G' ∧ (∀ j, j ≠ 11 → j ≠ 12 → G' 46 j = G0 46 j) ∧ FR zarS G0 G' ∧ x_Fin xFL G'
theorem l_an_ar106 {c : Nat} {o2 o3 o4 : Option (Nat × Int)} {G0 G : Nat → Nat → Int} (hL : x_SL L) (hF : x_Fin xFL G) (hz : cFL (zcz c) G) (hsw : cSw m S I (zcz c) mk G) (hWp : 0 < zWc m S I lo hi mk c) (h1 : G 46 11 = ((zR (zWc m S I lo hi mk) c + 1 : Nat) : Int)) (h2 : G 46 12 = ((zT (zWc m S I lo hi mk) c + zWc m S I lo hi mk c : Nat) : Int))
    (h3 : ∀ c', c' < c + 1 → 0 < zWc m S I lo hi mk c' → G 167 (zR (zWc m S I lo hi mk) c') = zc4 (zcz c') ∧ G 168 (zR (zWc m S I lo hi mk) c') = zT (zWc m S I lo hi mk) c') (h4 : ∀ cell, cell < 32 → G 54 cell = zsr (zWc m S I lo hi mk) (zVc m S I mk cell) c) (h5 : ∀ j, j ≠ 11 → j ≠ 12 → G 46 j = G0 46 j) (hQ : FR zarS G0 G) :
    X mX1_addRow 5 0 0 (pAr L G0 m S I lo hi mk (c + 1)) 106 [some (vR 46), some (vR 4), o2, o3, o4] [] L G 0 0 := by
  have hV : ∀ cell c', -1 ≤ zVc m S I mk cell c' ∧ zVc m S I mk cell c' ≤ 2 := fun _ _ => zol_bd
  refine x_aloadn (pc := 106) dX1_addRow_106 rfl ?_
  refine x_cVV (pc := 107) dX1_addRow_107 lk_X1_127 (c_an_noteSure (s := fun cell => zsr (zWc m S I lo hi mk) (zVc m S I mk cell) c) hL hF hz hsw (fun cell _ => zsr_bd (hV cell) c) h4) k_46 ⟨by decide, rfl⟩ (hL 46 (by decide) (by decide)) (⟨by decide, by decide⟩) (Nat.le_of_ble_eq_true rfl) rfl ?_
  rintro G1 ⟨a1, a2, hF⟩
  refine x_rV (pc := 110) dX1_addRow_110 rfl ?_
  refine ⟨⟨?_, ?_, fun c' hc' hw => by rw [a2 _ (by decide), a2 _ (by decide)]; exact h3 c' hc' hw, fun cell hc => ?_⟩, fun j j1 j2 => by rw [a2 _ (by decide)]; exact h5 j j1 j2, hQ.tr (a2.mono (by decide)), hF⟩
  · rw [a2 _ (by decide), h1, zR, if_pos hWp]
  · rw [a2 _ (by decide), h2, zT]
  · rw [a1 cell hc, zsr, if_pos hWp]; rfl
theorem l_an_ar105 {c : Nat} {tt cc dd : Int} {o2 o3 o4 : Option (Nat × Int)} {G0 G : Nat → Nat → Int} (hL : x_SL L) (hF : x_Fin xFL (x_up (x_up (x_up (x_up G 167 (zR (zWc m S I lo hi mk) c) (zc4 (zcz c) : Nat)) 168 (zR (zWc m S I lo hi mk) c) tt) 46 11 cc) 46 12 dd)) (hz : cFL (zcz c) G) (hsw : cSw m S I (zcz c) mk G) (hWp : 0 < zWc m S I lo hi mk c)
    (r3 : ∀ c', c' < c → 0 < zWc m S I lo hi mk c' → G 167 (zR (zWc m S I lo hi mk) c') = zc4 (zcz c') ∧ G 168 (zR (zWc m S I lo hi mk) c') = zT (zWc m S I lo hi mk) c') (r4 : ∀ cell, cell < 32 → G 54 cell = zsr (zWc m S I lo hi mk) (zVc m S I mk cell) c) (h46 : ∀ j, j ≠ 11 → j ≠ 12 → G 46 j = G0 46 j) (hQ : FR zarS G0 G)
    (htt : tt = zT (zWc m S I lo hi mk) c) (hcc : cc = ((zR (zWc m S I lo hi mk) c + 1 : Nat) : Int)) (hdd : dd = ((zT (zWc m S I lo hi mk) c + zWc m S I lo hi mk c : Nat) : Int)) :
    X mX1_addRow 5 0 0 (pAr L G0 m S I lo hi mk (c + 1)) 106 [some (vR 46), some (vR 4), o2, o3, o4] [] L (x_up (x_up (x_up (x_up G 167 (zR (zWc m S I lo hi mk) c) (zc4 (zcz c) : Nat)) 168 (zR (zWc m S I lo hi mk) c) tt) 46 11 cc) 46 12 dd) 0 0 := by
  obtain ⟨G3, hG3⟩ : ∃ G3, G3 = x_up (x_up (x_up (x_up G 167 (zR (zWc m S I lo hi mk) c) (zc4 (zcz c) : Nat)) 168 (zR (zWc m S I lo hi mk) c) tt) 46 11 cc) 46 12 dd := ⟨_, rfl⟩
  rw [← hG3] at hF ⊢
  have hfr : FR [46, 167, 168] G G3 := by rw [hG3]; exact (((FR.rf.up (by decide)).up (by decide)).up (by decide)).up (by decide)
  refine l_an_ar106 hL hF (hz.FR hfr (by decide) (by decide) (by decide)) ?_ hWp ?_ ?_ (fun c' hc' hw => ?_) (fun cell hc => ?_) (fun j j1 j2 => ?_) (hQ.tr (hfr.mono (by decide)))
  · obtain ⟨M, ha, h2⟩ := hsw
    exact ⟨M, ha.cg hfr (by decide) (by decide) (by decide), h2⟩
  · rw [hG3]; simp [x_up]; omega
  · rw [hG3]; simp [x_up]; omega
  · by_cases e : c' = c
    · subst e
      rw [hG3]
      exact ⟨by simp [x_up], by simp [x_up]; omega⟩
    · have hlt := zR_lt (W := zWc m S I lo hi mk) (show c' < c by omega) hw
      have hne : zR (zWc m S I lo hi mk) c' ≠ zR (zWc m S I lo hi mk) c := by omega
      have h33 := r3 c' (by omega) hw
      rw [hG3]
      exact ⟨by simp [x_up, hne]; exact h33.1, by simp [x_up, hne]; exact h33.2⟩
  · rw [hfr _ (by decide)]; exact r4 cell hc
  · rw [hG3, x_up_k j2, x_up_k j1, x_up_ne (by decide), x_up_ne (by decide)]; exact h46 j j1 j2
theorem c_an_addRow {c : Nat} {G : Nat → Nat → Int} (hL : x_SL L) (hF : x_Fin xFL G) (hE : cEq m S I G) (hb : cBd lo hi mk G) (hrw : cRW L G) (hS : zSu (zWc m S I lo hi mk) (zVc m S I mk) c G) (hc : c < 24057) (hv : zcv c) (hB : zBz lo hi (zub S I (2 * m)) (zcz c)) :
    CM yX1_addRow mX1_addRow 5 0 0 [vR 46, vR 4, vI (zc4 (zcz c))] L G (pAr L G m S I lo hi mk (c + 1)) := by
  obtain ⟨⟨hL_167, hL_168⟩, h9, h10⟩ := hrw
  have hz8 := (zcz_v hv).1
  have hV := hE.EV
  have hR := zR_6561 (W := zWc m S I lo hi mk) (fun c h => zWc_v h) hc hv
  have hTb := zTc_lt (m := m) (S := S) (I := I) (lo := lo) (hi := hi) (mk := mk) (c := c) (by omega)
  have hTb2 := zTc_lt (m := m) (S := S) (I := I) (lo := lo) (hi := hi) (mk := mk) (c := c + 1) (by omega)
  have hT1 : zT (zWc m S I lo hi mk) (c + 1) = zT (zWc m S I lo hi mk) c + zWc m S I lo hi mk c := rfl
  have hWy := zWc_y (m := m) (S := S) (I := I) (lo := lo) (hi := hi) (mk := mk) hv
  refine Ct.of_X (μ := mX1_addRow) rfl rfl (by decide) (fun h => by cases h) (Nat.le_of_ble_eq_true rfl) rfl ?_
  refine x_aloadn (pc := 0) dX1_addRow_0 rfl ?_
  refine x_getR (55) (pc := 1) dX1_addRow_1 fl_X1_39 k_46 (hL 46 (by decide) (by decide)) (f_46_8 hF) ?_
  refine x_iloadn (pc := 4) dX1_addRow_4 rfl ?_
  refine x_cVV (pc := 5) dX1_addRow_5 lk_X1_85 (c_fi_lay (z := zcz c) hL hF hz8) k_55 ⟨by decide, rfl⟩ (hL 55 (by decide) (by decide)) (⟨by decide, by decide⟩) (Nat.le_of_ble_eq_true rfl) rfl ?_
  rintro G1 ⟨a1, a2, hF⟩
  have g9 : G1 46 9 = ((167 : Nat) : Int) := by rw [a2 _ (by decide)]; exact h9
  have g10 : G1 46 10 = ((168 : Nat) : Int) := by rw [a2 _ (by decide)]; exact h10
  have hS1 := hS.FR a2 (by decide) (by decide) (by decide) (by decide)
  have hE1 := hE.FR a2 (by decide)
  have hb1 := hb.FR a2 (by decide) (by decide) (by decide)
  have hq1 : FR zarS G G1 := a2.mono (by decide)
  have r1 := hS1.1
  refine x_aloadn (pc := 8) dX1_addRow_8 rfl ?_
  refine x_getI (pc := 9) dX1_addRow_9 fl_X1_50 k_46 (hL 46 (by decide) (by decide)) ?_
  refine x_aloadn (pc := 12) dX1_addRow_12 rfl ?_
  refine x_getR (167) (pc := 13) dX1_addRow_13 fl_X1_43 k_46 (hL 46 (by decide) (by decide)) g9 ?_
  refine x_alen (pc := 16) dX1_addRow_16 k_167 (by decide) hL_167 ?_
  refine x_cge (tgt := 47) (pc := 17) dX1_addRow_17 (by decide) (by omega) (fun c_17 => ?_) (fun c_17 => ?_)
  · skip
    exact absurd c_17 (by omega)
  refine x_aloadn (pc := 20) dX1_addRow_20 rfl ?_
  refine x_getI (pc := 21) dX1_addRow_21 fl_X1_50 k_46 (hL 46 (by decide) (by decide)) ?_
  refine x_aloadn (pc := 24) dX1_addRow_24 rfl ?_
  refine x_getR (168) (pc := 25) dX1_addRow_25 fl_X1_46 k_46 (hL 46 (by decide) (by decide)) g10 ?_
  refine x_alen (pc := 28) dX1_addRow_28 k_168 (by decide) hL_168 ?_
  refine x_cge (tgt := 47) (pc := 29) dX1_addRow_29 (by decide) (by omega) (fun c_29 => ?_) (fun c_29 => ?_)
  · skip
    exact absurd c_29 (by omega)
  refine x_aloadn (pc := 32) dX1_addRow_32 rfl ?_
  refine x_getR (55) (pc := 33) dX1_addRow_33 fl_X1_39 k_46 (hL 46 (by decide) (by decide)) (f_46_8 hF) ?_
  refine x_aloadn (pc := 36) dX1_addRow_36 rfl ?_
  refine x_aloadn (pc := 37) dX1_addRow_37 rfl ?_
  refine x_getR (49) (pc := 38) dX1_addRow_38 fl_X1_18 k_46 (hL 46 (by decide) (by decide)) (f_46_2 hF) ?_
  refine x_cVI (pc := 41) dX1_addRow_41 lk_X1_93 (c_fi_solves hL hF hE1 a1 hb1) k_55 ⟨by decide, rfl⟩ (hL 55 (by decide) (by decide)) (⟨by decide, by decide⟩) (Nat.le_of_ble_eq_true rfl) rfl ?_
  rintro x G2 ⟨hx, b1, hF⟩
  have g9 : G2 46 9 = ((167 : Nat) : Int) := by rw [b1 _ (by decide)]; exact g9
  have g10 : G2 46 10 = ((168 : Nat) : Int) := by rw [b1 _ (by decide)]; exact g10
  have hS2 := hS1.FR b1 (by decide) (by decide) (by decide) (by decide)
  have hz2 := a1.FR b1 (by decide) (by decide) (by decide)
  have hq2 : FR zarS G G2 := hq1.tr (b1.mono (by decide))
  have h46 : ∀ j, G2 46 j = G 46 j := fun j => by rw [b1 _ (by decide), a2 _ (by decide)]
  refine x_ine (tgt := 48) (pc := 44) dX1_addRow_44 (by decide) (by rcases hx with hx | hx <;> omega) (fun c_44 => ?_) (fun c_44 => ?_)
  · skip
    obtain ⟨hl, hd, hsv⟩ : zLn m S I (zcz c) ∧ ¬ zDd (zE m S I (zcz c)) (zba (zcz c) mk) ∧ cSv m S I (zcz c) mk G2 := by
      rcases hx with hx | hx
      · exact hx.2
      · omega
    have hsw := hsv.sw
    have hwy : zcw (zF m S I (zcz c)) (zA m S I (zcz c) mk) (zbg (zcz c) 4) = zWc m S I lo hi mk c := by rw [hWy, zW_eq hV hl hz8 hB hd]; rfl
    refine x_aloadn (pc := 48) dX1_addRow_48 rfl ?_
    refine x_getR (55) (pc := 49) dX1_addRow_49 fl_X1_39 k_46 (hL 46 (by decide) (by decide)) (f_46_8 hF) ?_
    refine x_cVL (pc := 52) dX1_addRow_52 lk_X1_123 (c_fi_ways hL hF hz2 hsw) k_55 ⟨by decide, rfl⟩ (hL 55 (by decide) (by decide)) (⟨by decide, by decide⟩) (Nat.le_of_ble_eq_true rfl) rfl ?_
    rintro x G' ⟨rfl, hG⟩
    subst hG
    rw [hwy]
    refine x_lstoren (pc := 55) dX1_addRow_55 rfl (by decide) rfl ?_
    refine x_lloadn (pc := 56) dX1_addRow_56 rfl ?_
    refine x_lconst (x := 0) (pc := 57) dX1_addRow_57 (by decide) ?_
    refine x_lcmp (pc := 58) dX1_addRow_58 (by omega) ?_
    refine x_ine (tgt := 63) (pc := 59) dX1_addRow_59 (by decide) (zl_rg) (fun c_59 => ?_) (fun c_59 => ?_)
    · skip
      have c_59 := zl_n c_59
      have hWp : 0 < zWc m S I lo hi mk c := by omega
      obtain ⟨r1, r2, r3, r4⟩ := hS2
      refine x_aloadn (pc := 63) dX1_addRow_63 rfl ?_
      refine x_getR (167) (pc := 64) dX1_addRow_64 fl_X1_43 k_46 (hL 46 (by decide) (by decide)) g9 ?_
      refine x_aloadn (pc := 67) dX1_addRow_67 rfl ?_
      refine x_getI (pc := 68) dX1_addRow_68 fl_X1_50 k_46 (hL 46 (by decide) (by decide)) ?_
      refine x_iloadn (pc := 71) dX1_addRow_71 rfl ?_
      refine x_iastF (zR (zWc m S I lo hi mk) c) (pc := 72) dX1_addRow_72 k_167 hL_167 (⟨by omega, by omega, by decide⟩) hF (fun hF => ?_)
      refine x_aloadn (pc := 73) dX1_addRow_73 rfl ?_
      refine x_getR (168) (pc := 74) dX1_addRow_74 fl_X1_46 k_46 (hL 46 (by decide) (by decide)) g10 ?_
      refine x_aloadn (pc := 77) dX1_addRow_77 rfl ?_
      refine x_getI (pc := 78) dX1_addRow_78 fl_X1_50 k_46 (hL 46 (by decide) (by decide)) ?_
      rw [x_up_ne (by decide)]
      refine x_aloadn (pc := 81) dX1_addRow_81 rfl ?_
      refine x_getL (pc := 82) dX1_addRow_82 fl_X1_54 k_46 (hL 46 (by decide) (by decide)) ?_
      refine x_lastF (zR (zWc m S I lo hi mk) c) (pc := 85) dX1_addRow_85 k_168 hL_168 (⟨by omega, by omega, by decide⟩) hF (fun hF => ?_)
      refine x_aloadn (pc := 86) dX1_addRow_86 rfl ?_
      refine x_dup (pc := 87) dX1_addRow_87 (fun h => by cases h) ?_
      refine x_getI (pc := 88) dX1_addRow_88 fl_X1_50 k_46 (hL 46 (by decide) (by decide)) ?_
      refine x_iconst (pc := 91) dX1_addRow_91 ?_
      refine x_iadd (pc := 92) dX1_addRow_92 ?_
      refine x_putIF (pc := 93) dX1_addRow_93 fp_X1_50 k_46 (hL 46 (by decide) (by decide)) hF (fun hF => ?_)
      refine x_aloadn (pc := 96) dX1_addRow_96 rfl ?_
      refine x_dup (pc := 97) dX1_addRow_97 (fun h => by cases h) ?_
      refine x_getL (pc := 98) dX1_addRow_98 fl_X1_54 k_46 (hL 46 (by decide) (by decide)) ?_
      refine x_lloadn (pc := 101) dX1_addRow_101 rfl ?_
      refine x_ladd (pc := 102) dX1_addRow_102 ?_
      refine x_putLF (pc := 103) dX1_addRow_103 fp_X1_54 k_46 (hL 46 (by decide) (by decide)) hF (fun hF => ?_)
      exact l_an_ar105 hL hF hz2 hsw hWp r3 r4 (fun j _ _ => h46 j) hq2 (by rw [x_up_ne (by decide)]; exact r2) (by simp [x_up]; omega) (by simp [x_up]; omega)
    · skip
      have c_59 := zl_e c_59
      refine x_rV (pc := 62) dX1_addRow_62 rfl ?_
      refine ⟨hS2.skip (by omega) (fun c' h1 h2 => ?_), fun j _ _ => h46 j, hq2, hF⟩
      have e : c' = c := by omega
      subst e
      omega
  · skip
    refine x_rV (pc := 47) dX1_addRow_47 rfl ?_
    refine ⟨hS2.skip (by omega) (fun c' h1 h2 => ?_), fun j _ _ => h46 j, hq2, hF⟩
    have e : c' = c := by omega
    subst e
    rw [hWy]
    refine zWn hV hz8 ?_
    rcases hx with hx | hx
    · omega
    · exact hx.2
/-! lengths within bounds -/
theorem zWc_0 {c : Nat} (hmo : ∀ u, u < 4 → mo u = if zub S I (2 * m) u = 0 then 0 else hi u) (h : ¬ (zcv c ∧ ∀ u, u < 4 → lo u ≤ zcz c u ∧ zcz c u ≤ mo u)) : zWc m S I lo hi mk c = 0 := by
  by_cases hv : zcv c
  · rw [zWc_y hv]
    refine zWy_b (fun w => h ⟨hv, fun u hu => ?_⟩)
    have := w u hu
    refine ⟨this.1, ?_⟩
    rw [hmo u hu]
    by_cases e : zub S I (2 * m) u = 0
    · rw [if_pos e, this.2.2 e]; exact Nat.le_refl _
    · rw [if_neg e]; exact this.2.1
  · unfold zWc; rw [if_neg hv]
theorem zBz_in {z : Nat → Nat} (hmo : ∀ u, u < 4 → mo u = if zub S I (2 * m) u = 0 then 0 else hi u) (h : ∀ u, u < 4 → lo u ≤ z u ∧ z u ≤ mo u) : zBz lo hi (zub S I (2 * m)) z := fun u hu => by
  have h1 := h u hu
  have h2 := hmo u hu
  by_cases e : zub S I (2 * m) u = 0
  · rw [if_pos e] at h2; exact ⟨h1.1, by omega, fun _ => by omega⟩
  · rw [if_neg e] at h2; exact ⟨h1.1, by omega, fun w => absurd w e⟩
def cLM (lo mo : Nat → Nat) (G : Nat → Nat → Int) : Prop := ∀ u, u < 4 → G 52 u = lo u ∧ G 53 u = mo u ∧ lo u ≤ 8 ∧ mo u ≤ 8
theorem zWc_t {t w x y : Nat} (hmo : ∀ u, u < 4 → mo u = if zub S I (2 * m) u = 0 then 0 else hi u) {c : Nat} (hc : 0 < zWc m S I lo hi mk c) (h : c = 729 * t + 81 * w + 9 * x + y) (hw : w ≤ 8) (hx : x ≤ 8) (hy : y ≤ 8) : (w + x + y ≤ t ∧ t ≤ w + x + y + 8) ∧ (lo 0 ≤ w ∧ w ≤ mo 0) ∧ (lo 1 ≤ x ∧ x ≤ mo 1) ∧ (lo 2 ≤ y ∧ y ≤ mo 2) ∧ lo 3 ≤ t - (w + x + y) ∧ t - (w + x + y) ≤ mo 3 := by
  have hh : zcv c ∧ ∀ u, u < 4 → lo u ≤ zcz c u ∧ zcz c u ≤ mo u := Classical.byContradiction fun q => by rw [zWc_0 hmo q] at hc; exact absurd hc (by decide)
  obtain ⟨e0, e1, e2, e3, e4, e5⟩ := zcz_mk (t := t) hw hx hy
  rw [← h] at e0 e1 e2 e3 e4 e5
  have hv := hh.1
  unfold zcv at hv
  rw [e4, e5] at hv
  have b0 := hh.2 0 (by decide)
  have b1 := hh.2 1 (by decide)
  have b2 := hh.2 2 (by decide)
  have b3 := hh.2 3 (by decide)
  rw [e0] at b0; rw [e1] at b1; rw [e2] at b2; rw [e3] at b3
  exact ⟨hv, b0, b1, b2, b3⟩
theorem zdig {t c : Nat} (h1 : 729 * t ≤ c) (h2 : c < 729 * (t + 1)) : ∃ w x y, w ≤ 8 ∧ x ≤ 8 ∧ y ≤ 8 ∧ c = 729 * t + 81 * w + 9 * x + y :=
  ⟨c / 81 % 9, c / 9 % 9, c % 9, by omega, by omega, by omega, by
    have d1 : c / 9 / 9 = c / 81 := Nat.div_div_eq_div_mul c 9 9
    have d2 : c / 81 / 9 = c / 729 := Nat.div_div_eq_div_mul c 81 9
    omega⟩
abbrev pSL (L : List Nat) (G0 : Nat → Nat → Int) (m : Nat) (S : Nat → Nat) (I : Nat → Nat → Nat) (lo hi mk : Nat → Nat) (c : Nat) (G : Nat → Nat → Int) : Prop := zSu (zWc m S I lo hi mk) (zVc m S I mk) c G ∧ (∀ j, j ≠ 11 → j ≠ 12 → G 46 j = G0 46 j) ∧ FR zarS G0 G ∧ x_Fin xFL G
theorem l_an_sly {t w x : Nat} {G0 : Nat → Nat → Int} {Q : x_Q} (hL : x_SL L) (hE : cEq m S I G0) (hb : cBd lo hi mk G0) (hrw : cRW L G0) (hlm : cLM lo mo G0) (hmo : ∀ u, u < 4 → mo u = if zub S I (2 * m) u = 0 then 0 else hi u) (ht : t ≤ 32) (hw : lo 0 ≤ w ∧ w ≤ mo 0) (hx : lo 1 ≤ x ∧ x ≤ mo 1) (hwx : w + x ≤ t)
    (cont : ∀ (G : Nat → Nat → Int) (o6 : Option (Nat × Int)), pSL L G0 m S I lo hi mk (729 * t + 81 * w + 9 * x + 9) G → X mX1_surveyOfLength 6 0 0 Q 126 [some (vR 46), some (vR 4), some (vI t), some (vI w), some (vI x), some (vI ((t - w - x : Nat) : Int)), o6] [] L G 0 0) :
    ∀ (k y : Nat) (G : Nat → Nat → Int), y + k = 9 → lo 2 ≤ y → t ≤ w + x + y + mo 3 → pSL L G0 m S I lo hi mk (729 * t + 81 * w + 9 * x + y) G →
    X mX1_surveyOfLength 6 0 0 Q 77 [some (vR 46), some (vR 4), some (vI t), some (vI w), some (vI x), some (vI ((t - w - x : Nat) : Int)), some (vI y)] [] L G 0 0 := by
  have l0 := hlm 0 (by decide)
  have l1 := hlm 1 (by decide)
  have l2 := hlm 2 (by decide)
  have l3 := hlm 3 (by decide)
  intro k
  induction k with
  | zero =>
    intro y G hy hy2 hy3 hP
    obtain ⟨p1, p2, p3, hF⟩ := id hP
    have e53 : G 53 2 = mo 2 := by rw [p3 _ (by decide)]; exact l2.2.1
    have hy9 : y = 9 := by omega
    subst hy9
    refine x_iload (pc := 77) dX1_surveyOfLength_77 rfl ?_
    refine x_aloadn (pc := 79) dX1_surveyOfLength_79 rfl ?_
    refine x_getR (53) (pc := 80) dX1_surveyOfLength_80 fl_X1_30 k_46 (hL 46 (by decide) (by decide)) (f_46_6 hF) ?_
    refine x_iconst (pc := 83) dX1_surveyOfLength_83 ?_
    refine x_iald (2) (pc := 84) dX1_surveyOfLength_84 k_53 (hL 53 (by decide) (by decide)) (⟨rfl, by decide, by decide⟩) ?_
    refine x_cgt (tgt := 126) (pc := 85) dX1_surveyOfLength_85 (by decide) (by omega) (fun c_85 => ?_) (fun c_85 => ?_)
    rotate_left
    · skip
      exact absurd c_85 (by omega)
    exact cont G _ hP
  | succ k ih =>
    intro y G hy hy2 hy3 hP
    obtain ⟨p1, p2, p3, hF⟩ := id hP
    have e53 : G 53 2 = mo 2 := by rw [p3 _ (by decide)]; exact l2.2.1
    have e52 : G 52 3 = lo 3 := by rw [p3 _ (by decide)]; exact l3.1
    have hE1 := hE.FR p3 (by decide)
    have hb1 := hb.FR p3 (by decide) (by decide) (by decide)
    have hrw1 : cRW L G := ⟨hrw.1, by rw [p2 9 (by decide) (by decide)]; exact hrw.2.1, by rw [p2 10 (by decide) (by decide)]; exact hrw.2.2⟩
    have out : (mo 2 < y ∨ t < w + x + y + lo 3) → pSL L G0 m S I lo hi mk (729 * t + 81 * w + 9 * x + 9) G := fun q => ⟨p1.skip (by omega) (fun c h1 h2 => by
      rcases Nat.eq_zero_or_pos (zWc m S I lo hi mk c) with e | e
      · exact e
      · have := zWc_t hmo e (t := t) (w := w) (x := x) (y := c - (729 * t + 81 * w + 9 * x)) (by omega) (by omega) (by omega) (by omega)
        omega), p2, p3, hF⟩
    by_cases cy : mo 2 < y
    · skip
      refine x_iload (pc := 77) dX1_surveyOfLength_77 rfl ?_
      refine x_aloadn (pc := 79) dX1_surveyOfLength_79 rfl ?_
      refine x_getR (53) (pc := 80) dX1_surveyOfLength_80 fl_X1_30 k_46 (hL 46 (by decide) (by decide)) (f_46_6 hF) ?_
      refine x_iconst (pc := 83) dX1_surveyOfLength_83 ?_
      refine x_iald (2) (pc := 84) dX1_surveyOfLength_84 k_53 (hL 53 (by decide) (by decide)) (⟨rfl, by decide, by decide⟩) ?_
      refine x_cgt (tgt := 126) (pc := 85) dX1_surveyOfLength_85 (by decide) (by omega) (fun c_85 => ?_) (fun c_85 => ?_)
      rotate_left
      · skip
        exact absurd c_85 (by omega)
      exact cont G _ (out (Or.inl cy))
    · by_cases cz : t < w + x + y + lo 3
      · skip
        refine x_iload (pc := 77) dX1_surveyOfLength_77 rfl ?_
        refine x_aloadn (pc := 79) dX1_surveyOfLength_79 rfl ?_
        refine x_getR (53) (pc := 80) dX1_surveyOfLength_80 fl_X1_30 k_46 (hL 46 (by decide) (by decide)) (f_46_6 hF) ?_
        refine x_iconst (pc := 83) dX1_surveyOfLength_83 ?_
        refine x_iald (2) (pc := 84) dX1_surveyOfLength_84 k_53 (hL 53 (by decide) (by decide)) (⟨rfl, by decide, by decide⟩) ?_
        refine x_cgt (tgt := 126) (pc := 85) dX1_surveyOfLength_85 (by decide) (by omega) (fun c_85 => ?_) (fun c_85 => ?_)
        · skip
          exact absurd c_85 (by omega)
        refine x_iload (pc := 88) dX1_surveyOfLength_88 rfl ?_
        refine x_iload (pc := 90) dX1_surveyOfLength_90 rfl ?_
        refine x_aloadn (pc := 92) dX1_surveyOfLength_92 rfl ?_
        refine x_getR (52) (pc := 93) dX1_surveyOfLength_93 fl_X1_27 k_46 (hL 46 (by decide) (by decide)) (f_46_5 hF) ?_
        refine x_iconst (pc := 96) dX1_surveyOfLength_96 ?_
        refine x_iald (3) (pc := 97) dX1_surveyOfLength_97 k_52 (hL 52 (by decide) (by decide)) (⟨rfl, by decide, by decide⟩) ?_
        refine x_isub (pc := 98) dX1_surveyOfLength_98 ?_
        refine x_cgt (tgt := 126) (pc := 99) dX1_surveyOfLength_99 (by decide) (by omega) (fun c_99 => ?_) (fun c_99 => ?_)
        rotate_left
        · skip
          exact absurd c_99 (by omega)
        exact cont G _ (out (Or.inr cz))
      · obtain ⟨c, hc⟩ : ∃ c, c = 729 * t + 81 * w + 9 * x + y := ⟨_, rfl⟩
        obtain ⟨e0, e1, e2, e3, e4, e5⟩ := zcz_mk (t := t) (show w ≤ 8 by omega) (show x ≤ 8 by omega) (show y ≤ 8 by omega)
        rw [← hc] at e0 e1 e2 e3 e4 e5 p1
        have hv : zcv c := by unfold zcv; rw [e4, e5]; omega
        have hB : zBz lo hi (zub S I (2 * m)) (zcz c) := zBz_in hmo (fun u hu => by
          rcases (show u = 0 ∨ u = 1 ∨ u = 2 ∨ u = 3 by omega) with rfl | rfl | rfl | rfl
          · rw [e0]; omega
          · rw [e1]; omega
          · rw [e2]; omega
          · rw [e3]; omega)
        have hcode : 4096 * w + 256 * x + 16 * y + (t - w - x - y) = zc4 (zcz c) := by
          unfold zc4
          rw [e0, e1, e2, e3]; omega
        have hsub : ((t - w - x : Nat) : Int) - (y : Int) = ((t - w - x - y : Nat) : Int) := by omega
        refine x_iload (pc := 77) dX1_surveyOfLength_77 rfl ?_
        refine x_aloadn (pc := 79) dX1_surveyOfLength_79 rfl ?_
        refine x_getR (53) (pc := 80) dX1_surveyOfLength_80 fl_X1_30 k_46 (hL 46 (by decide) (by decide)) (f_46_6 hF) ?_
        refine x_iconst (pc := 83) dX1_surveyOfLength_83 ?_
        refine x_iald (2) (pc := 84) dX1_surveyOfLength_84 k_53 (hL 53 (by decide) (by decide)) (⟨rfl, by decide, by decide⟩) ?_
        refine x_cgt (tgt := 126) (pc := 85) dX1_surveyOfLength_85 (by decide) (by omega) (fun c_85 => ?_) (fun c_85 => ?_)
        · skip
          exact absurd c_85 (by omega)
        refine x_iload (pc := 88) dX1_surveyOfLength_88 rfl ?_
        refine x_iload (pc := 90) dX1_surveyOfLength_90 rfl ?_
        refine x_aloadn (pc := 92) dX1_surveyOfLength_92 rfl ?_
        refine x_getR (52) (pc := 93) dX1_surveyOfLength_93 fl_X1_27 k_46 (hL 46 (by decide) (by decide)) (f_46_5 hF) ?_
        refine x_iconst (pc := 96) dX1_surveyOfLength_96 ?_
        refine x_iald (3) (pc := 97) dX1_surveyOfLength_97 k_52 (hL 52 (by decide) (by decide)) (⟨rfl, by decide, by decide⟩) ?_
        refine x_isub (pc := 98) dX1_surveyOfLength_98 ?_
        refine x_cgt (tgt := 126) (pc := 99) dX1_surveyOfLength_99 (by decide) (by omega) (fun c_99 => ?_) (fun c_99 => ?_)
        · skip
          exact absurd c_99 (by omega)
        refine x_aloadn (pc := 102) dX1_surveyOfLength_102 rfl ?_
        refine x_aloadn (pc := 103) dX1_surveyOfLength_103 rfl ?_
        refine x_iloadn (pc := 104) dX1_surveyOfLength_104 rfl ?_
        refine x_iload (pc := 105) dX1_surveyOfLength_105 rfl ?_
        refine x_iload (pc := 107) dX1_surveyOfLength_107 rfl ?_
        refine x_iload (pc := 109) dX1_surveyOfLength_109 rfl ?_
        refine x_iload (pc := 111) dX1_surveyOfLength_111 rfl ?_
        refine x_isub (pc := 113) dX1_surveyOfLength_113 ?_
        rw [hsub]
        refine x_cSI (pc := 114) dX1_surveyOfLength_114 lk_X1_105 (c_an_codeOf (w := w) (x := x) (y := y) (u := t - w - x - y) (by omega) (by omega) (by omega) (by omega)) (⟨by decide, by decide⟩) (Nat.le_of_ble_eq_true rfl) rfl ?_
        rintro x G' ⟨rfl, rfl⟩
        rw [hcode]
        refine x_cVV (pc := 117) dX1_surveyOfLength_117 lk_X1_120 (c_an_addRow (c := c) hL hF hE1 hb1 hrw1 p1 (by omega) hv hB) k_46 ⟨by decide, rfl⟩ (hL 46 (by decide) (by decide)) (⟨by decide, by decide⟩) (Nat.le_of_ble_eq_true rfl) rfl ?_
        rintro G1 ⟨a1, a2, a3, hF⟩
        refine x_iinc (pc := 120) dX1_surveyOfLength_120 rfl (by decide) rfl ?_
        refine x_goto (tgt := 77) (pc := 123) dX1_surveyOfLength_123 (by decide) ?_
        refine ih (y + 1) G1 (by omega) (by omega) (by omega) ⟨?_, fun j j1 j2 => by rw [a2 j j1 j2]; exact p2 j j1 j2, p3.tr a3, hF⟩
        rw [show 729 * t + 81 * w + 9 * x + (y + 1) = c + 1 by omega]; exact a1
end XSV

