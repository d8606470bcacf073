/-! the reference's answer -/
section XAM
variable {m : Nat} {S : Nat → Nat} {I : Nat → Nat → Nat} {lo hi mk : Nat → Nat} {L : List Nat}
abbrev pAmP (L : List Nat) (G0 : Nat → Nat → Int) (P : Int → Prop) : x_Q := qI L fun x G' => P x ∧ FM zamS [22, 25] G0 G' ∧ x_Fin xFL G'
theorem l_mo_answer {G0 : Nat → Nat → Int} {i u : Nat} {k : Int} (hL : x_SL L) (hE : mEq m S I G0) (hB : mBd lo hi mk G0) (hib : i < 1000000000) (hu : u < 4) (hk : -1 ≤ k ∧ k < 2147483648) {P : Int → Prop} (hP : ∀ x, zTP m S I lo hi mk i u k x → P x) :
    ∀ (r c : Nat) (v : Int) (G : Nat → Nat → Int) (o7 o8 : Option (Nat × Int)), 24057 ≤ c + r → zMr c v → zT (zWc m S I lo hi mk) c ≤ i → mCo c G → FM zamS [22, 25] G0 G → x_Fin xFL G →
    X mX12_answer 3 0 0 (pAmP L G0 P) 41 [some (vR 127), some (vI i), some (vI u), some (vI k), some (vL ((i - zT (zWc m S I lo hi mk) c : Nat) : Int)), none, some (vI v), o7, o8] [] L G 0 0 := by
  intro r
  induction r with
  | zero =>
    intro c v G o7 o8 hr hv hT hC hQ hF
    rcases hv with ⟨_, h, _⟩ | ⟨rfl, rfl⟩
    · omega
    refine x_iload (pc := 41) dX12_answer_41 rfl ?_
    refine x_ieq (tgt := 119) (pc := 43) dX12_answer_43 (by decide) (by omega) (fun c_43 => ?_) (fun c_43 => ?_)
    rotate_left
    · skip
      exact absurd rfl c_43
    refine x_iconst (pc := 119) dX12_answer_119 ?_
    refine x_rI (pc := 120) dX12_answer_120 rfl ?_
    exact ⟨hP _ (Or.inl ⟨hT, rfl⟩), hQ, hF⟩
  | succ r ih =>
    intro c v G o7 o8 hr hv hT hC hQ hF
    rcases hv with ⟨rfl, hc, hcv⟩ | ⟨rfl, rfl⟩
    · have hE1 := hE.FM hQ (by decide) (by decide) (by decide) (by decide)
      have hB1 := hB.FM hQ (by decide) (by decide) (by decide)
      have hy := zWc_y (m := m) (S := S) (I := I) (lo := lo) (hi := hi) (mk := mk) hcv
      have hV : zEV m S I := fun q hq => ⟨(hE.2.2 q hq).2.1, fun j hj => ((hE.2.2 q hq).2.2 j hj).2⟩
      have hz := (zcz_v hcv).1
      have hN := zbg_4 hz 4 (Nat.le_refl _)
      have hbs : zbg (zcz c) (u + 1) = zbg (zcz c) u + zcz c u := rfl
      have hb4 := zbg_le (z := zcz c) (show u + 1 ≤ 4 by omega)
      obtain ⟨T, hTe⟩ : ∃ T, T = zT (zWc m S I lo hi mk) c := ⟨_, rfl⟩
      obtain ⟨W, hWe⟩ : ∃ W, W = zWy m S I lo hi mk (zcz c) := ⟨_, rfl⟩
      have next : ∀ c', c < c' → (∀ j, c < j → j < c' → ¬ zcv j) → zT (zWc m S I lo hi mk) c' = T + W := fun c' h1 h2 => by rw [zT_next h1 h2, hy, hTe, hWe]
      have fin : ∀ x, i - T < W → x = zTl m S I mk c (i - T) u k → P x := fun x h1 h2 => hP x (Or.inr ⟨c, hc, hT, by rw [hy, ← hTe, ← hWe]; omega, by rw [← hTe]; exact h2⟩)
      rw [← hTe] at hT ⊢
      have hWy := zWy_live (lo := lo) (hi := hi) (mk := mk) hV hz
      rw [← hWe] at hWy
      refine x_iload (pc := 41) dX12_answer_41 rfl ?_
      refine x_ieq (tgt := 119) (pc := 43) dX12_answer_43 (by decide) (by omega) (fun c_43 => ?_) (fun c_43 => ?_)
      · skip
        exact absurd c_43 (by decide)
      refine x_aloadn (pc := 46) dX12_answer_46 rfl ?_
      refine x_cVL (pc := 47) dX12_answer_47 lk_X12_194 (c_mo_waysNow hL hF hE1 hB1 (hC.FL hcv)) k_127 ⟨by decide, rfl⟩ (hL 127 (by decide) (by decide)) (⟨by decide, by decide⟩) (Nat.le_of_ble_eq_true rfl) rfl ?_
      rintro x G1 ⟨rfl, q1, hF, hW⟩
      rw [← hWe] at hW ⊢
      have hC1 := hC.FM q1 (by decide) (by decide) (by decide)
      have hZ := hC1.FL hcv u hu
      have hQ1 := hQ.tr (q1.mono (S' := zamS) (F' := [22, 25]) (by decide) (by decide))
      refine x_lstore (pc := 50) dX12_answer_50 (by decide) rfl ?_
      refine x_lload (pc := 52) dX12_answer_52 rfl ?_
      refine x_lload (pc := 54) dX12_answer_54 rfl ?_
      refine x_lcmp (pc := 56) dX12_answer_56 (by omega) ?_
      refine x_ige (tgt := 103) (pc := 57) dX12_answer_57 (by decide) (zl_rg) (fun c_57 => ?_) (fun c_57 => ?_)
      · skip
        have c_57 := zl_ge c_57
        refine x_lload (pc := 103) dX12_answer_103 rfl ?_
        refine x_lload (pc := 105) dX12_answer_105 rfl ?_
        refine x_lsub (pc := 107) dX12_answer_107 ?_
        refine x_lstore (pc := 108) dX12_answer_108 (by decide) rfl ?_
        refine x_aloadn (pc := 110) dX12_answer_110 rfl ?_
        refine x_cVI (pc := 111) dX12_answer_111 lk_X12_198 (c_mo_nextLengths hL hF hc hC1) k_127 ⟨by decide, rfl⟩ (hL 127 (by decide) (by decide)) (⟨by decide, by decide⟩) (Nat.le_of_ble_eq_true rfl) rfl ?_
        rintro v G2 ⟨c', k1, k2, k3, k4, k5, k6, hF⟩
        refine x_istore (pc := 114) dX12_answer_114 (by decide) rfl ?_
        refine x_goto (tgt := 41) (pc := 116) dX12_answer_116 (by decide) ?_
        have e := ih c' v G2 (some (vL ((min W 1000000001 : Nat) : Int))) none (by omega) k5 (by rw [next c' k1 k3]; omega) k4 (hQ1.tr (k6.mono (by decide) (by decide))) hF
        rw [next c' k1 k3, show ((i - (T + W) : Nat) : Int) = ((i - T : Nat) : Int) - ((min W 1000000001 : Nat) : Int) by omega] at e
        exact e
      · skip
        have c_57 := zl_l c_57
        refine x_iloadn (pc := 60) dX12_answer_60 rfl ?_
        refine x_iconst (pc := 61) dX12_answer_61 ?_
        refine x_cne (tgt := 74) (pc := 62) dX12_answer_62 (by decide) (by omega) (fun c_62 => ?_) (fun c_62 => ?_)
        · skip
          refine x_iloadn (pc := 74) dX12_answer_74 rfl ?_
          refine x_aloadn (pc := 75) dX12_answer_75 rfl ?_
          refine x_getR (144) (pc := 76) dX12_answer_76 fl_X12_58 k_127 (hL 127 (by decide) (by decide)) (f_127_20 hF) ?_
          refine x_iloadn (pc := 79) dX12_answer_79 rfl ?_
          refine x_iald (u) (pc := 80) dX12_answer_80 k_144 (hL 144 (by decide) (by decide)) (⟨by omega, by omega, by decide⟩) ?_
          rw [hZ.1]
          refine x_cge (tgt := 101) (pc := 81) dX12_answer_81 (by decide) (by omega) (fun c_81 => ?_) (fun c_81 => ?_)
          · skip
            refine x_iconst (pc := 101) dX12_answer_101 ?_
            refine x_rI (pc := 102) dX12_answer_102 rfl ?_
            first
            | exact ⟨hfin, hQ1, hF⟩
            | exact ⟨fin _ (by omega) (by unfold zTl; rw [if_pos (by omega)]), hQ1, hF⟩
            | exact ⟨fin _ (by omega) (by unfold zTl; rw [if_neg (by omega), if_neg (by omega)]), hQ1, hF⟩
          · skip
            refine x_aloadn (pc := 84) dX12_answer_84 rfl ?_
            refine x_lload (pc := 85) dX12_answer_85 rfl ?_
            refine x_aloadn (pc := 87) dX12_answer_87 rfl ?_
            refine x_getR (145) (pc := 88) dX12_answer_88 fl_X12_61 k_127 (hL 127 (by decide) (by decide)) (f_127_21 hF) ?_
            refine x_iloadn (pc := 91) dX12_answer_91 rfl ?_
            obtain ⟨w1, w2, w3, w4⟩ := hW (by omega)
            obtain ⟨y1, y2, y3⟩ := hWy (by omega)
            refine x_iald (u) (pc := 92) dX12_answer_92 k_145 (hL 145 (by decide) (by decide)) (⟨by omega, by omega, by decide⟩) ?_
            rw [w2 u hu]
            refine x_iloadn (pc := 93) dX12_answer_93 rfl ?_
            refine x_iadd (pc := 94) dX12_answer_94 ?_
            rw [show ((zbg (zcz c) u : Nat) : Int) + k = ((zbg (zcz c) u + k.toNat : Nat) : Int) by omega]
            refine x_cVI (pc := 95) dX12_answer_95 lk_X12_207 (c_mo_letterOf (a := zar m S I (zcz c) mk) (r := i - T) (p0 := zbg (zcz c) u + k.toNat) (N := zbg (zcz c) 4) hL hF (by omega) (by omega) w1 w3 (by omega) (fun x hx hg => ⟨w4 x hx hg, zan_lt _ _ _, y3 x hx hg⟩)) k_127 ⟨by decide, rfl⟩ (hL 127 (by decide) (by decide)) (⟨by decide, by decide⟩) (Nat.le_of_ble_eq_true rfl) rfl ?_
            rintro x G2 ⟨rfl, rfl⟩
            have hfin := fin _ (by omega) (show zlt (zg m S I (zcz c)) (zar m S I (zcz c) mk) (zbg (zcz c) 4) (i - T) (zg m S I (zcz c) (zbg (zcz c) u + k.toNat)) = zTl m S I mk c (i - T) u k by unfold zTl; rw [if_neg (by omega), if_pos (by omega)]; exact zlt_cl hV y1 hz y2 (by omega))
            refine x_goto (tgt := 102) (pc := 98) dX12_answer_98 (by decide) ?_
            refine x_rI (pc := 102) dX12_answer_102 rfl ?_
            first
            | exact ⟨hfin, hQ1, hF⟩
            | exact ⟨fin _ (by omega) (by unfold zTl; rw [if_pos (by omega)]), hQ1, hF⟩
            | exact ⟨fin _ (by omega) (by unfold zTl; rw [if_neg (by omega), if_neg (by omega)]), hQ1, hF⟩
        · skip
          refine x_aloadn (pc := 65) dX12_answer_65 rfl ?_
          refine x_getR (144) (pc := 66) dX12_answer_66 fl_X12_58 k_127 (hL 127 (by decide) (by decide)) (f_127_20 hF) ?_
          refine x_iloadn (pc := 69) dX12_answer_69 rfl ?_
          refine x_iald (u) (pc := 70) dX12_answer_70 k_144 (hL 144 (by decide) (by decide)) (⟨by omega, by omega, by decide⟩) ?_
          rw [hZ.1]
          refine x_goto (tgt := 102) (pc := 71) dX12_answer_71 (by decide) ?_
          refine x_rI (pc := 102) dX12_answer_102 rfl ?_
          first
          | exact ⟨hfin, hQ1, hF⟩
          | exact ⟨fin _ (by omega) (by unfold zTl; rw [if_pos (by omega)]), hQ1, hF⟩
          | exact ⟨fin _ (by omega) (by unfold zTl; rw [if_neg (by omega), if_neg (by omega)]), hQ1, hF⟩
    · skip
      refine x_iload (pc := 41) dX12_answer_41 rfl ?_
      refine x_ieq (tgt := 119) (pc := 43) dX12_answer_43 (by decide) (by omega) (fun c_43 => ?_) (fun c_43 => ?_)
      rotate_left
      · skip
        exact absurd rfl c_43
      refine x_iconst (pc := 119) dX12_answer_119 ?_
      refine x_rI (pc := 120) dX12_answer_120 rfl ?_
      exact ⟨hP _ (Or.inl ⟨hT, rfl⟩), hQ, hF⟩
theorem c_mo_answer {i u k : Int} {G : Nat → Nat → Int} (hL : x_SL L) (hF : x_Fin xFL G) (hE : mEq m S I G) (hB : mBd lo hi mk G) (hi0 : -2147483648 ≤ i ∧ i < 2147483648) (hu : -2147483648 ≤ u ∧ u < 2147483648) (hk : -2147483648 ≤ k ∧ k < 2147483648) :
    CM yX12_answer mX12_answer 3 0 0 [vR 127, vI i, vI u, vI k] L G (pAmP L G (fun x => (∃ b, zBad u i k = some b ∧ x = b) ∨ (zBad u i k = none ∧ zTP m S I lo hi mk i.toNat u.toNat k x))) := by
  refine Ct.of_X (μ := mX12_answer) rfl rfl (by decide) (fun h => by cases h) (Nat.le_of_ble_eq_true rfl) rfl ?_
  refine x_iloadn (pc := 0) dX12_answer_0 rfl ?_
  refine x_cSI (pc := 1) dX12_answer_1 lk_X12_161 (c_mo_isName hu) (⟨by decide, by decide⟩) (Nat.le_of_ble_eq_true rfl) rfl ?_
  rintro x G' ⟨rfl, rfl⟩
  refine x_ine (tgt := 10) (pc := 4) dX12_answer_4 (by decide) (by omega) (fun c_4 => ?_) (fun c_4 => ?_)
  · skip
    refine x_iloadn (pc := 10) dX12_answer_10 rfl ?_
    refine x_i2l (pc := 11) dX12_answer_11 (by omega) ?_
    refine x_lconst (x := 0) (pc := 12) dX12_answer_12 (by decide) ?_
    refine x_ldc2 (pc := 13) dX12_answer_13 co_X12_205 ?_
    refine x_cSI (pc := 16) dX12_answer_16 lk_X12_131 (c_mo_in (by omega)) (⟨by decide, by decide⟩) (Nat.le_of_ble_eq_true rfl) rfl ?_
    rintro x G' ⟨rfl, rfl⟩
    refine x_ieq (tgt := 27) (pc := 19) dX12_answer_19 (by decide) (by omega) (fun c_19 => ?_) (fun c_19 => ?_)
    · skip
      refine x_bipush (pc := 27) dX12_answer_27 (by decide) ?_
      refine x_rI (pc := 29) dX12_answer_29 rfl ?_
      exact ⟨Or.inl ⟨-3, by unfold zBad; rw [if_neg (by split at c_4 <;> omega), if_pos (by split at c_19 <;> omega)], rfl⟩, FM.rf, hF⟩
    · skip
      refine x_iloadn (pc := 22) dX12_answer_22 rfl ?_
      refine x_iconst (pc := 23) dX12_answer_23 ?_
      refine x_cge (tgt := 30) (pc := 24) dX12_answer_24 (by decide) (by omega) (fun c_24 => ?_) (fun c_24 => ?_)
      · skip
        obtain ⟨u', rfl⟩ : ∃ u' : Nat, u = u' := ⟨u.toNat, by split at c_4 <;> omega⟩
        obtain ⟨i', rfl⟩ : ∃ i' : Nat, i = i' := ⟨i.toNat, by split at c_19 <;> omega⟩
        have hu4 : u' < 4 := by split at c_4 <;> omega
        have hi9 : i' < 1000000000 := by split at c_19 <;> omega
        have hbad : zBad u' i' k = none := by unfold zBad; rw [if_neg (by omega), if_neg (by omega)]
        refine x_iloadn (pc := 30) dX12_answer_30 rfl ?_
        refine x_i2l (pc := 31) dX12_answer_31 (by omega) ?_
        refine x_lstore (pc := 32) dX12_answer_32 (by decide) rfl ?_
        refine x_aloadn (pc := 34) dX12_answer_34 rfl ?_
        refine x_cVV (pc := 35) dX12_answer_35 lk_X12_191 (c_mo_firstLengths hL hF) k_127 ⟨by decide, rfl⟩ (hL 127 (by decide) (by decide)) (⟨by decide, by decide⟩) (Nat.le_of_ble_eq_true rfl) rfl ?_
        rintro G1 ⟨k1, k2, hF⟩
        refine x_iconst (pc := 38) dX12_answer_38 ?_
        refine x_istore (pc := 39) dX12_answer_39 (by decide) rfl ?_
        exact l_mo_answer hL hE hB hi9 hu4 ⟨by omega, by omega⟩ (fun x hx => Or.inr ⟨hbad, hx⟩) 24057 0 1 G1 none none (by omega) (Or.inl ⟨rfl, by decide, zcv_0⟩) (Nat.zero_le _) k1 (k2.mono (by decide) (by decide)) hF
      · skip
        refine x_bipush (pc := 27) dX12_answer_27 (by decide) ?_
        refine x_rI (pc := 29) dX12_answer_29 rfl ?_
        exact ⟨Or.inl ⟨-3, by unfold zBad; rw [if_neg (by split at c_4 <;> omega), if_pos (by split at c_19 <;> omega)], rfl⟩, FM.rf, hF⟩
  · skip
    refine x_bipush (pc := 7) dX12_answer_7 (by decide) ?_
    refine x_rI (pc := 9) dX12_answer_9 rfl ?_
    exact ⟨Or.inl ⟨-2, by unfold zBad; rw [if_pos (by split at c_4 <;> omega)], rfl⟩, FM.rf, hF⟩
end XAM

