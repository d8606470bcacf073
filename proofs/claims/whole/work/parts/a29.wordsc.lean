/-! the class: words built by the chain -/
theorem chw_k {v : Nat} (h : v < 4) : xK (73 + v) = (13, 300) := by
  have hall : ∀ v, v < 4 → xK (73 + v) = (13, 300) := by decide +kernel
  exact hall v h
theorem chw_f {v : Nat} (h : v < 4) : (72, v, 73 + v) ∈ xFL := by
  have hall : ∀ v, v < 4 → (decide ((72, v, 73 + v) ∈ xFL)) = true := by decide +kernel
  exact of_decide_eq_true (hall v h)
def cCw (w : Nat → List Nat) (G : Nat → Nat → Int) : Prop := ∀ v, v < 4 → G 77 v = (((w v).length : Nat) : Int) ∧ (w v).length ≤ 300 ∧ ∀ i, i < (w v).length → G (73 + v) i = (((w v).getD ((w v).length - 1 - i) 0 : Nat) : Int)
abbrev z_cwS : List Nat := [77, 73, 74, 75, 76]
theorem chw_S {v : Nat} (h : v < 4) : 73 + v ∈ z_cwS := by
  rcases (show v = 0 ∨ v = 1 ∨ v = 2 ∨ v = 3 by omega) with rfl | rfl | rfl | rfl <;> decide
theorem chw_L {v : Nat} {L : List Nat} (h : v < 4) (hL : x_SL L) : 73 + v ∈ L := hL _ (by omega) (by omega)
section XWC
variable {L : List Nat} {w : Nat → List Nat} {u P : Nat}
abbrev pPw (L : List Nat) (G0 : Nat → Nat → Int) (w : Nat → List Nat) (u P : Nat) : x_Q := qV L fun G' => G' 77 u = (((zqa w P ++ w u).length : Nat) : Int) ∧ ((zqa w P ++ w u).length ≤ 300 → cCw (zws w u ((P : Nat) : Int)) G') ∧ FR z_cwS G0 G' ∧ x_Fin xFL G'
theorem zqa_le (h : ∀ v, v < 4 → (w v).length ≤ 300) (hP : P < 8) : (zqa w P).length ≤ 300 := by
  unfold zqa
  by_cases c : P < 4
  · rw [if_pos c]; simp
  · rw [if_neg c]; exact h _ (by omega)
/-- the new row, from its end -/
theorem cCw.put {G G' : Nat → Nat → Int} (hw : cCw w G) (hu : u < 4) (hs : G' 77 u = (((zqa w P ++ w u).length : Nat) : Int)) (hs2 : ∀ v, v ≠ u → G' 77 v = G 77 v) (hl : (zqa w P ++ w u).length ≤ 300) (h1 : ∀ i, i < (w u).length → G' (73 + u) i = G (73 + u) i) (h2 : ∀ i, i < (zqa w P).length → G' (73 + u) ((w u).length + i) = (((zqa w P).getD ((zqa w P).length - 1 - i) 0 : Nat) : Int)) (h3 : ∀ v, v < 4 → v ≠ u → ∀ i, G' (73 + v) i = G (73 + v) i) : cCw (zws w u ((P : Nat) : Int)) G' := fun v hv => by
  rw [zws_P]
  by_cases c : v = u
  · rw [if_pos c, c]
    refine ⟨hs, hl, fun i hi => ?_⟩
    rw [List.length_append] at hi ⊢
    rcases Nat.lt_or_ge i (w u).length with d | d
    · rw [h1 i d, zgd_r (by omega), show (zqa w P).length + (w u).length - 1 - i - (zqa w P).length = (w u).length - 1 - i by omega]
      exact (hw u hu).2.2 i d
    · have e := h2 (i - (w u).length) (by omega)
      rw [show (w u).length + (i - (w u).length) = i by omega] at e
      rw [e, zgd_l (by omega), show (zqa w P).length + (w u).length - 1 - i = (zqa w P).length - 1 - (i - (w u).length) by omega]
  · rw [if_neg c]
    obtain ⟨a1, a2, a3⟩ := hw v hv
    exact ⟨by rw [hs2 v c]; exact a1, a2, fun i hi => by rw [h3 v hv c]; exact a3 i hi⟩
theorem c_ch_letter {G : Nat → Nat → Int} (hL : x_SL L) (hF : x_Fin xFL G) (hu : u < 4) (hP : P < 4) (hw : cCw w G) :
    CM yX2_prependLetter mX2_prependLetter 0 0 0 [vR 66, vI u, vI P] L G (pPw L G w u P) := by
  obtain ⟨s1, s2, s3⟩ := hw u hu
  have hq : zqa w P = [P] := if_pos hP
  have hql : (zqa w P ++ w u).length = (w u).length + 1 := by rw [hq, List.length_append, List.length_singleton]; omega
  have n77 : ∀ v, v < 4 → 73 + v ≠ 77 := fun v hv => by omega
  refine Ct.of_X (μ := mX2_prependLetter) rfl rfl (by decide) (fun h => by cases h) (Nat.le_of_ble_eq_true rfl) rfl ?_
  refine x_aloadn (pc := 0) dX2_prependLetter_0 rfl ?_
  refine x_getR (77) (pc := 1) dX2_prependLetter_1 fl_X2_33 k_66 (hL 66 (by decide) (by decide)) (f_66_6 hF) ?_
  refine x_iloadn (pc := 4) dX2_prependLetter_4 rfl ?_
  refine x_iald (u) (pc := 5) dX2_prependLetter_5 k_77 (hL 77 (by decide) (by decide)) (⟨by omega, by omega, by decide⟩) ?_
  rw [s1]
  refine x_sipush (pc := 6) dX2_prependLetter_6 (by decide) ?_
  refine x_cge (tgt := 26) (pc := 9) dX2_prependLetter_9 (by decide) (by omega) (fun c_9 => ?_) (fun c_9 => ?_)
  · skip
    refine x_aloadn (pc := 26) dX2_prependLetter_26 rfl ?_
    refine x_getR (77) (pc := 27) dX2_prependLetter_27 fl_X2_33 k_66 (hL 66 (by decide) (by decide)) (f_66_6 hF) ?_
    refine x_iloadn (pc := 30) dX2_prependLetter_30 rfl ?_
    refine x_dup2 (pc := 31) dX2_prependLetter_31 (fun h => by cases h) (fun h => by cases h) ?_
    refine x_iald (u) (pc := 32) dX2_prependLetter_32 k_77 (hL 77 (by decide) (by decide)) (⟨by omega, by omega, by decide⟩) ?_
    first
    | rw [x_up_ne (by omega), s1]
    | rw [s1]
    refine x_iconst (pc := 33) dX2_prependLetter_33 ?_
    refine x_iadd (pc := 34) dX2_prependLetter_34 ?_
    refine x_iastF (u) (pc := 35) dX2_prependLetter_35 k_77 (hL 77 (by decide) (by decide)) (⟨by omega, by omega, by decide⟩) hF (fun hF => ?_)
    refine x_rV (pc := 36) dX2_prependLetter_36 rfl ?_
    first
    | (refine ⟨by rw [x_up_s, hql]; rfl, fun hl => hw.put hu (by rw [x_up_s, hql]; rfl) (fun v hv => by rw [x_up_k hv, x_up_ne (by omega)]) hl (fun i hi => by rw [x_up_ne (n77 u hu), x_up_k (by omega)]) (fun i hi => ?_) (fun v hv hvu i => by rw [x_up_ne (n77 v hv), x_up_ne (by omega)]), (FR.rf.up (chw_S hu)).up (by decide), hF⟩
       rw [hq, List.length_singleton] at hi
       rw [show i = 0 by omega, Nat.add_zero, x_up_ne (n77 u hu), x_up_s, hq]; rfl)
    | exact ⟨by rw [x_up_s, hql]; rfl, fun hl => absurd hl (by omega), FR.rf.up (by decide), hF⟩
  · skip
    refine x_aloadn (pc := 12) dX2_prependLetter_12 rfl ?_
    refine x_getR (72) (pc := 13) dX2_prependLetter_13 fl_X2_30 k_66 (hL 66 (by decide) (by decide)) (f_66_5 hF) ?_
    refine x_iloadn (pc := 16) dX2_prependLetter_16 rfl ?_
    refine x_aald (73 + u) (u) (pc := 17) dX2_prependLetter_17 k_72 (by decide) (hL 72 (by decide) (by decide)) (⟨by omega, by omega, by decide⟩) (hF _ (chw_f hu)) ?_
    refine x_aloadn (pc := 18) dX2_prependLetter_18 rfl ?_
    refine x_getR (77) (pc := 19) dX2_prependLetter_19 fl_X2_33 k_66 (hL 66 (by decide) (by decide)) (f_66_6 hF) ?_
    refine x_iloadn (pc := 22) dX2_prependLetter_22 rfl ?_
    refine x_iald (u) (pc := 23) dX2_prependLetter_23 k_77 (hL 77 (by decide) (by decide)) (⟨by omega, by omega, by decide⟩) ?_
    rw [s1]
    refine x_iloadn (pc := 24) dX2_prependLetter_24 rfl ?_
    refine x_iastF ((w u).length) (pc := 25) dX2_prependLetter_25 (chw_k hu) (chw_L hu hL) (⟨by omega, by omega, by decide⟩) hF (fun hF => ?_)
    refine x_aloadn (pc := 26) dX2_prependLetter_26 rfl ?_
    refine x_getR (77) (pc := 27) dX2_prependLetter_27 fl_X2_33 k_66 (hL 66 (by decide) (by decide)) (f_66_6 hF) ?_
    refine x_iloadn (pc := 30) dX2_prependLetter_30 rfl ?_
    refine x_dup2 (pc := 31) dX2_prependLetter_31 (fun h => by cases h) (fun h => by cases h) ?_
    refine x_iald (u) (pc := 32) dX2_prependLetter_32 k_77 (hL 77 (by decide) (by decide)) (⟨by omega, by omega, by decide⟩) ?_
    first
    | rw [x_up_ne (by omega), s1]
    | rw [s1]
    refine x_iconst (pc := 33) dX2_prependLetter_33 ?_
    refine x_iadd (pc := 34) dX2_prependLetter_34 ?_
    refine x_iastF (u) (pc := 35) dX2_prependLetter_35 k_77 (hL 77 (by decide) (by decide)) (⟨by omega, by omega, by decide⟩) hF (fun hF => ?_)
    refine x_rV (pc := 36) dX2_prependLetter_36 rfl ?_
    first
    | (refine ⟨by rw [x_up_s, hql]; rfl, fun hl => hw.put hu (by rw [x_up_s, hql]; rfl) (fun v hv => by rw [x_up_k hv, x_up_ne (by omega)]) hl (fun i hi => by rw [x_up_ne (n77 u hu), x_up_k (by omega)]) (fun i hi => ?_) (fun v hv hvu i => by rw [x_up_ne (n77 v hv), x_up_ne (by omega)]), (FR.rf.up (chw_S hu)).up (by decide), hF⟩
       rw [hq, List.length_singleton] at hi
       rw [show i = 0 by omega, Nat.add_zero, x_up_ne (n77 u hu), x_up_s, hq]; rfl)
    | exact ⟨by rw [x_up_s, hql]; rfl, fun hl => absurd hl (by omega), FR.rf.up (by decide), hF⟩
theorem l_ch_w49 {b : Int} {G0 G1 : Nat → Nat → Int} (hL : x_SL L) (hF : x_Fin xFL G1) (hQ : FR z_cwS G0 G1) (hu : u < 4) (hql : (zqa w P ++ w u).length = (w u).length + (w (P - 4)).length) (hc : (zqa w P ++ w u).length ≤ 300 → cCw (zws w u ((P : Nat) : Int)) (x_up G1 77 u (((w u).length + (w (P - 4)).length : Nat) : Int))) :
    X mX2_prependWord 1 0 0 (pPw L G0 w u P) 49 [some (vR 66), some (vI u), some (vI b), some (vI (((w u).length + (w (P - 4)).length : Nat) : Int))] [] L G1 0 0 := by
  refine x_aloadn (pc := 49) dX2_prependWord_49 rfl ?_
  refine x_getR (77) (pc := 50) dX2_prependWord_50 fl_X2_33 k_66 (hL 66 (by decide) (by decide)) (f_66_6 hF) ?_
  refine x_iloadn (pc := 53) dX2_prependWord_53 rfl ?_
  refine x_iloadn (pc := 54) dX2_prependWord_54 rfl ?_
  refine x_iastF (u) (pc := 55) dX2_prependWord_55 k_77 (hL 77 (by decide) (by decide)) (⟨by omega, by omega, by decide⟩) hF (fun hF => ?_)
  refine x_rV (pc := 56) dX2_prependWord_56 rfl ?_
  exact ⟨by rw [x_up_s, hql], hc, hQ.up (by decide), hF⟩
theorem c_ch_word {G : Nat → Nat → Int} (hL : x_SL L) (hF : x_Fin xFL G) (hu : u < 4) (hP : 4 ≤ P ∧ P < 8) (hPu : P - 4 ≠ u) (hw : cCw w G) :
    CM yX2_prependWord mX2_prependWord 1 0 0 [vR 66, vI u, vI ((P - 4 : Nat) : Int)] L G (pPw L G w u P) := by
  obtain ⟨s1, s2, s3⟩ := hw u hu
  obtain ⟨t1, t2, t3⟩ := hw (P - 4) (by omega)
  have hq : zqa w P = w (P - 4) := if_neg (by omega)
  have hql : (zqa w P ++ w u).length = (w u).length + (w (P - 4)).length := by rw [hq, List.length_append]; omega
  have hadd : (((w u).length : Nat) : Int) + (((w (P - 4)).length : Nat) : Int) = (((w u).length + (w (P - 4)).length : Nat) : Int) := by omega
  have n77 : ∀ v, v < 4 → 73 + v ≠ 77 := fun v hv => by omega
  refine Ct.of_X (μ := mX2_prependWord) rfl rfl (by decide) (fun h => by cases h) (Nat.le_of_ble_eq_true rfl) rfl ?_
  refine x_aloadn (pc := 0) dX2_prependWord_0 rfl ?_
  refine x_getR (77) (pc := 1) dX2_prependWord_1 fl_X2_33 k_66 (hL 66 (by decide) (by decide)) (f_66_6 hF) ?_
  refine x_iloadn (pc := 4) dX2_prependWord_4 rfl ?_
  refine x_iald (u) (pc := 5) dX2_prependWord_5 k_77 (hL 77 (by decide) (by decide)) (⟨by omega, by omega, by decide⟩) ?_
  rw [s1]
  refine x_aloadn (pc := 6) dX2_prependWord_6 rfl ?_
  refine x_getR (77) (pc := 7) dX2_prependWord_7 fl_X2_33 k_66 (hL 66 (by decide) (by decide)) (f_66_6 hF) ?_
  refine x_iloadn (pc := 10) dX2_prependWord_10 rfl ?_
  refine x_iald (P - 4) (pc := 11) dX2_prependWord_11 k_77 (hL 77 (by decide) (by decide)) (⟨by omega, by omega, by decide⟩) ?_
  rw [t1]
  refine x_iadd (pc := 12) dX2_prependWord_12 ?_
  rw [hadd]
  refine x_istoren (pc := 13) dX2_prependWord_13 rfl (by decide) rfl ?_
  refine x_iloadn (pc := 14) dX2_prependWord_14 rfl ?_
  refine x_sipush (pc := 15) dX2_prependWord_15 (by decide) ?_
  refine x_cgt (tgt := 49) (pc := 18) dX2_prependWord_18 (by decide) (by omega) (fun c_18 => ?_) (fun c_18 => ?_)
  · skip
    first
    | (refine l_ch_w49 hL (x_FinC hF (chw_k hu)) (FR.rf.cp (chw_S hu)) hu hql (fun hl => hw.put hu (by rw [x_up_s]; omega) (fun v hv => by rw [x_up_k hv, x_cpG_ne (by omega)]) hl (fun i hi => ?_) (fun i hi => ?_) (fun v hv hvu i => by rw [x_up_ne (n77 v hv), x_cpG_ne (by omega)]))
       · rw [x_up_ne (n77 u hu)]
         unfold x_cpG
         rw [if_neg (fun q => by omega)]
       · rw [hq] at hi ⊢
         rw [x_up_ne (n77 u hu)]
         unfold x_cpG
         rw [if_pos ⟨rfl, by omega, by omega⟩, show 0 + ((w u).length + i - (w u).length) = i by omega]
         exact t3 i hi)
    | exact l_ch_w49 hL hF FR.rf hu hql (fun hl => absurd hl (by omega))
  · skip
    refine x_aloadn (pc := 21) dX2_prependWord_21 rfl ?_
    refine x_getR (72) (pc := 22) dX2_prependWord_22 fl_X2_30 k_66 (hL 66 (by decide) (by decide)) (f_66_5 hF) ?_
    refine x_iloadn (pc := 25) dX2_prependWord_25 rfl ?_
    refine x_aald (73 + (P - 4)) (P - 4) (pc := 26) dX2_prependWord_26 k_72 (by decide) (hL 72 (by decide) (by decide)) (⟨by omega, by omega, by decide⟩) (hF _ (chw_f (show P - 4 < 4 by omega))) ?_
    refine x_iconst (pc := 27) dX2_prependWord_27 ?_
    refine x_aloadn (pc := 28) dX2_prependWord_28 rfl ?_
    refine x_getR (72) (pc := 29) dX2_prependWord_29 fl_X2_30 k_66 (hL 66 (by decide) (by decide)) (f_66_5 hF) ?_
    refine x_iloadn (pc := 32) dX2_prependWord_32 rfl ?_
    refine x_aald (73 + u) (u) (pc := 33) dX2_prependWord_33 k_72 (by decide) (hL 72 (by decide) (by decide)) (⟨by omega, by omega, by decide⟩) (hF _ (chw_f hu)) ?_
    refine x_aloadn (pc := 34) dX2_prependWord_34 rfl ?_
    refine x_getR (77) (pc := 35) dX2_prependWord_35 fl_X2_33 k_66 (hL 66 (by decide) (by decide)) (f_66_6 hF) ?_
    refine x_iloadn (pc := 38) dX2_prependWord_38 rfl ?_
    refine x_iald (u) (pc := 39) dX2_prependWord_39 k_77 (hL 77 (by decide) (by decide)) (⟨by omega, by omega, by decide⟩) ?_
    rw [s1]
    refine x_aloadn (pc := 40) dX2_prependWord_40 rfl ?_
    refine x_getR (77) (pc := 41) dX2_prependWord_41 fl_X2_33 k_66 (hL 66 (by decide) (by decide)) (f_66_6 hF) ?_
    refine x_iloadn (pc := 44) dX2_prependWord_44 rfl ?_
    refine x_iald (P - 4) (pc := 45) dX2_prependWord_45 k_77 (hL 77 (by decide) (by decide)) (⟨by omega, by omega, by decide⟩) ?_
    rw [t1]
    refine x_cpy 0 (w u).length (w (P - 4)).length rfl rfl rfl ⟨⟨by omega, by omega⟩, by decide, by decide⟩ (pc := 46) dX2_prependWord_46 lm_X2_105 (chw_k (show P - 4 < 4 by omega)) (chw_k hu) (chw_L (show P - 4 < 4 by omega) hL) (chw_L hu hL) (by omega) (Nat.le_of_ble_eq_true rfl) ?_
    first
    | (refine l_ch_w49 hL (x_FinC hF (chw_k hu)) (FR.rf.cp (chw_S hu)) hu hql (fun hl => hw.put hu (by rw [x_up_s]; omega) (fun v hv => by rw [x_up_k hv, x_cpG_ne (by omega)]) hl (fun i hi => ?_) (fun i hi => ?_) (fun v hv hvu i => by rw [x_up_ne (n77 v hv), x_cpG_ne (by omega)]))
       · rw [x_up_ne (n77 u hu)]
         unfold x_cpG
         rw [if_neg (fun q => by omega)]
       · rw [hq] at hi ⊢
         rw [x_up_ne (n77 u hu)]
         unfold x_cpG
         rw [if_pos ⟨rfl, by omega, by omega⟩, show 0 + ((w u).length + i - (w u).length) = i by omega]
         exact t3 i hi)
    | exact l_ch_w49 hL hF FR.rf hu hql (fun hl => absurd hl (by omega))
end XWC

