/-! the class: the survey -/
section XSW
variable {m : Nat} {S : Nat → Nat} {I : Nat → Nat → Nat} {lo hi mk mo : Nat → Nat} {L : List Nat}
theorem l_an_slz {y : Nat} {a b c x d0 : Int} {G : Nat → Nat → Int} {Q : x_Q} (hL : x_SL L) (hF : x_Fin xFL G) (e2 : G 53 2 = c) (hy : c < y) (hb : (y : Int) < 2147483648 ∧ 0 ≤ c)
    (cont : X mX1_surveyOfLength 6 0 0 Q 126 [some (vR 46), some (vR 4), some (vI a), some (vI b), some (vI x), some (vI d0), some (vI y)] [] L G 0 0) :
    X mX1_surveyOfLength 6 0 0 Q 77 [some (vR 46), some (vR 4), some (vI a), some (vI b), some (vI x), some (vI d0), some (vI y)] [] L G 0 0 := by
  refine x_iload (pc := 77) dX1_surveyOfLength_77 rfl ?_
  refine x_aloadn (pc := 79) dX1_surveyOfLength_79 rfl ?_
  refine x_getR (53) (pc := 80) dX1_surveyOfLength_80 fl_X1_30 k_46 (hL 46 (by decide) (by decide)) (f_46_6 hF) ?_
  refine x_iconst (pc := 83) dX1_surveyOfLength_83 ?_
  refine x_iald (2) (pc := 84) dX1_surveyOfLength_84 k_53 (hL 53 (by decide) (by decide)) (⟨rfl, by decide, by decide⟩) ?_
  refine x_cgt (tgt := 126) (pc := 85) dX1_surveyOfLength_85 (by decide) (by omega) (fun c_85 => ?_) (fun c_85 => ?_)
  rotate_left
  · skip
    exact absurd c_85 (by omega)
  exact cont
theorem l_an_slx {t w : Nat} {G0 : Nat → Nat → Int} {Q : x_Q} (hL : x_SL L) (hE : cEq m S I G0) (hb : cBd lo hi mk G0) (hrw : cRW L G0) (hlm : cLM lo mo G0) (hmo : ∀ u, u < 4 → mo u = if zub S I (2 * m) u = 0 then 0 else hi u) (ht : t ≤ 32) (hw : lo 0 ≤ w ∧ w ≤ mo 0)
    (cont : ∀ (G : Nat → Nat → Int) (o4 o5 o6 : Option (Nat × Int)), pSL L G0 m S I lo hi mk (729 * t + 81 * w + 81) G → X mX1_surveyOfLength 6 0 0 Q 132 [some (vR 46), some (vR 4), some (vI t), some (vI w), o4, o5, o6] [] L G 0 0) :
    ∀ (k x : Nat) (G : Nat → Nat → Int) (o5 o6 : Option (Nat × Int)), x + k = 9 → lo 1 ≤ x → pSL L G0 m S I lo hi mk (729 * t + 81 * w + 9 * x) G →
    X mX1_surveyOfLength 6 0 0 Q 30 [some (vR 46), some (vR 4), some (vI t), some (vI w), some (vI x), o5, o6] [] L G 0 0 := by
  have l0 := hlm 0 (by decide)
  have l1 := hlm 1 (by decide)
  have l2 := hlm 2 (by decide)
  have l3 := hlm 3 (by decide)
  intro k
  induction k with
  | zero =>
    intro x G o5 o6 hx hx1 hP
    obtain ⟨p1, p2, p3, hF⟩ := id hP
    have e53 : G 53 1 = mo 1 := by rw [p3 _ (by decide)]; exact l1.2.1
    have hx9 : x = 9 := by omega
    subst hx9
    refine x_iload (pc := 30) dX1_surveyOfLength_30 rfl ?_
    refine x_aloadn (pc := 32) dX1_surveyOfLength_32 rfl ?_
    refine x_getR (53) (pc := 33) dX1_surveyOfLength_33 fl_X1_30 k_46 (hL 46 (by decide) (by decide)) (f_46_6 hF) ?_
    refine x_iconst (pc := 36) dX1_surveyOfLength_36 ?_
    refine x_iald (1) (pc := 37) dX1_surveyOfLength_37 k_53 (hL 53 (by decide) (by decide)) (⟨rfl, by decide, by decide⟩) ?_
    refine x_cgt (tgt := 132) (pc := 38) dX1_surveyOfLength_38 (by decide) (by omega) (fun c_38 => ?_) (fun c_38 => ?_)
    rotate_left
    · skip
      exact absurd c_38 (by omega)
    exact cont G _ _ _ hP
  | succ k ih =>
    intro x G o5 o6 hx hx1 hP
    obtain ⟨p1, p2, p3, hF⟩ := id hP
    have e53 : G 53 1 = mo 1 := by rw [p3 _ (by decide)]; exact l1.2.1
    have e52 : G 52 2 = lo 2 := by rw [p3 _ (by decide)]; exact l2.1
    have e533 : G 53 3 = mo 3 := by rw [p3 _ (by decide)]; exact l3.2.1
    have out : (mo 1 < x ∨ t < w + x) → pSL L G0 m S I lo hi mk (729 * t + 81 * w + 81) G := fun q => ⟨p1.skip (by omega) (fun c h1 h2 => by
      rcases Nat.eq_zero_or_pos (zWc m S I lo hi mk c) with e | e
      · exact e
      · obtain ⟨w', x', y', d1, d2, d3, d4⟩ := zdig (t := t) (c := c) (by omega) (by omega)
        have hw' : w' = w := by omega
        have hx' : x ≤ x' := by omega
        have := zWc_t hmo e d4 d1 d2 d3
        omega), p2, p3, hF⟩
    by_cases cx : mo 1 < x
    · skip
      refine x_iload (pc := 30) dX1_surveyOfLength_30 rfl ?_
      refine x_aloadn (pc := 32) dX1_surveyOfLength_32 rfl ?_
      refine x_getR (53) (pc := 33) dX1_surveyOfLength_33 fl_X1_30 k_46 (hL 46 (by decide) (by decide)) (f_46_6 hF) ?_
      refine x_iconst (pc := 36) dX1_surveyOfLength_36 ?_
      refine x_iald (1) (pc := 37) dX1_surveyOfLength_37 k_53 (hL 53 (by decide) (by decide)) (⟨rfl, by decide, by decide⟩) ?_
      refine x_cgt (tgt := 132) (pc := 38) dX1_surveyOfLength_38 (by decide) (by omega) (fun c_38 => ?_) (fun c_38 => ?_)
      rotate_left
      · skip
        exact absurd c_38 (by omega)
      exact cont G _ _ _ (out (Or.inl cx))
    · by_cases ct : t < w + x
      · skip
        refine x_iload (pc := 30) dX1_surveyOfLength_30 rfl ?_
        refine x_aloadn (pc := 32) dX1_surveyOfLength_32 rfl ?_
        refine x_getR (53) (pc := 33) dX1_surveyOfLength_33 fl_X1_30 k_46 (hL 46 (by decide) (by decide)) (f_46_6 hF) ?_
        refine x_iconst (pc := 36) dX1_surveyOfLength_36 ?_
        refine x_iald (1) (pc := 37) dX1_surveyOfLength_37 k_53 (hL 53 (by decide) (by decide)) (⟨rfl, by decide, by decide⟩) ?_
        refine x_cgt (tgt := 132) (pc := 38) dX1_surveyOfLength_38 (by decide) (by omega) (fun c_38 => ?_) (fun c_38 => ?_)
        · skip
          exact absurd c_38 (by omega)
        refine x_iloadn (pc := 41) dX1_surveyOfLength_41 rfl ?_
        refine x_iload (pc := 42) dX1_surveyOfLength_42 rfl ?_
        refine x_iadd (pc := 44) dX1_surveyOfLength_44 ?_
        refine x_iloadn (pc := 45) dX1_surveyOfLength_45 rfl ?_
        refine x_cgt (tgt := 132) (pc := 46) dX1_surveyOfLength_46 (by decide) (by omega) (fun c_46 => ?_) (fun c_46 => ?_)
        rotate_left
        · skip
          exact absurd c_46 (by omega)
        exact cont G _ _ _ (out (Or.inr ct))
      · obtain ⟨y, hy⟩ : ∃ y : Nat, max (lo 2 : Int) (((t - w - x : Nat) : Int) - (mo 3 : Int)) = y := ⟨(max (lo 2 : Int) (((t - w - x : Nat) : Int) - (mo 3 : Int))).toNat, by omega⟩
        have hy1 : lo 2 ≤ y ∧ t ≤ w + x + y + mo 3 := by omega
        have hsub : (t : Int) - (w : Int) - (x : Int) = ((t - w - x : Nat) : Int) := by omega
        have ent : pSL L G0 m S I lo hi mk (729 * t + 81 * w + 9 * x + min y 9) G := ⟨p1.skip (by omega) (fun c h1 h2 => by
          rcases Nat.eq_zero_or_pos (zWc m S I lo hi mk c) with e | e
          · exact e
          · have := zWc_t hmo e (t := t) (w := w) (x := x) (y := c - (729 * t + 81 * w + 9 * x)) (by omega) (by omega) (by omega) (by omega)
            omega), p2, p3, hF⟩
        have next : ∀ (G1 : Nat → Nat → Int) (o6 : Option (Nat × Int)), pSL L G0 m S I lo hi mk (729 * t + 81 * w + 9 * x + 9) G1 → X mX1_surveyOfLength 6 0 0 Q 126 [some (vR 46), some (vR 4), some (vI t), some (vI w), some (vI x), some (vI ((t - w - x : Nat) : Int)), o6] [] L G1 0 0 := fun G1 o6 b => by
          refine x_iinc (pc := 126) dX1_surveyOfLength_126 rfl (by decide) rfl ?_
          refine x_goto (tgt := 30) (pc := 129) dX1_surveyOfLength_129 (by decide) ?_
          have e := ih (x + 1) G1 (some (vI ((t - w - x : Nat) : Int))) o6 (by omega) (by omega) (by rw [show 729 * t + 81 * w + 9 * (x + 1) = 729 * t + 81 * w + 9 * x + 9 by omega]; exact b)
          exact e
        by_cases c9 : y ≤ 9
        · rw [Nat.min_eq_left c9] at ent
          refine x_iload (pc := 30) dX1_surveyOfLength_30 rfl ?_
          refine x_aloadn (pc := 32) dX1_surveyOfLength_32 rfl ?_
          refine x_getR (53) (pc := 33) dX1_surveyOfLength_33 fl_X1_30 k_46 (hL 46 (by decide) (by decide)) (f_46_6 hF) ?_
          refine x_iconst (pc := 36) dX1_surveyOfLength_36 ?_
          refine x_iald (1) (pc := 37) dX1_surveyOfLength_37 k_53 (hL 53 (by decide) (by decide)) (⟨rfl, by decide, by decide⟩) ?_
          refine x_cgt (tgt := 132) (pc := 38) dX1_surveyOfLength_38 (by decide) (by omega) (fun c_38 => ?_) (fun c_38 => ?_)
          · skip
            exact absurd c_38 (by omega)
          refine x_iloadn (pc := 41) dX1_surveyOfLength_41 rfl ?_
          refine x_iload (pc := 42) dX1_surveyOfLength_42 rfl ?_
          refine x_iadd (pc := 44) dX1_surveyOfLength_44 ?_
          refine x_iloadn (pc := 45) dX1_surveyOfLength_45 rfl ?_
          refine x_cgt (tgt := 132) (pc := 46) dX1_surveyOfLength_46 (by decide) (by omega) (fun c_46 => ?_) (fun c_46 => ?_)
          · skip
            exact absurd c_46 (by omega)
          refine x_iloadn (pc := 49) dX1_surveyOfLength_49 rfl ?_
          refine x_iloadn (pc := 50) dX1_surveyOfLength_50 rfl ?_
          refine x_isub (pc := 51) dX1_surveyOfLength_51 ?_
          refine x_iload (pc := 52) dX1_surveyOfLength_52 rfl ?_
          refine x_isub (pc := 54) dX1_surveyOfLength_54 ?_
          rw [hsub]
          refine x_istore (pc := 55) dX1_surveyOfLength_55 (by decide) rfl ?_
          refine x_aloadn (pc := 57) dX1_surveyOfLength_57 rfl ?_
          refine x_getR (52) (pc := 58) dX1_surveyOfLength_58 fl_X1_27 k_46 (hL 46 (by decide) (by decide)) (f_46_5 hF) ?_
          refine x_iconst (pc := 61) dX1_surveyOfLength_61 ?_
          refine x_iald (2) (pc := 62) dX1_surveyOfLength_62 k_52 (hL 52 (by decide) (by decide)) (⟨rfl, by decide, by decide⟩) ?_
          rw [e52]
          refine x_iload (pc := 63) dX1_surveyOfLength_63 rfl ?_
          refine x_aloadn (pc := 65) dX1_surveyOfLength_65 rfl ?_
          refine x_getR (53) (pc := 66) dX1_surveyOfLength_66 fl_X1_30 k_46 (hL 46 (by decide) (by decide)) (f_46_6 hF) ?_
          refine x_iconst (pc := 69) dX1_surveyOfLength_69 ?_
          refine x_iald (3) (pc := 70) dX1_surveyOfLength_70 k_53 (hL 53 (by decide) (by decide)) (⟨rfl, by decide, by decide⟩) ?_
          rw [e533]
          refine x_isub (pc := 71) dX1_surveyOfLength_71 ?_
          refine x_mmax (pc := 72) dX1_surveyOfLength_72 lk_X1_115 (by omega) (Nat.le_of_ble_eq_true rfl) (by omega) ?_
          rw [hy]
          refine x_istore (pc := 75) dX1_surveyOfLength_75 (by decide) rfl ?_
          exact l_an_sly hL hE hb hrw hlm hmo ht hw ⟨hx1, by omega⟩ (by omega) next (9 - y) y G (by omega) hy1.1 hy1.2 ent
        · -- the first y is behind 9: none
          rw [Nat.min_eq_right (by omega)] at ent
          refine x_iload (pc := 30) dX1_surveyOfLength_30 rfl ?_
          refine x_aloadn (pc := 32) dX1_surveyOfLength_32 rfl ?_
          refine x_getR (53) (pc := 33) dX1_surveyOfLength_33 fl_X1_30 k_46 (hL 46 (by decide) (by decide)) (f_46_6 hF) ?_
          refine x_iconst (pc := 36) dX1_surveyOfLength_36 ?_
          refine x_iald (1) (pc := 37) dX1_surveyOfLength_37 k_53 (hL 53 (by decide) (by decide)) (⟨rfl, by decide, by decide⟩) ?_
          refine x_cgt (tgt := 132) (pc := 38) dX1_surveyOfLength_38 (by decide) (by omega) (fun c_38 => ?_) (fun c_38 => ?_)
          · skip
            exact absurd c_38 (by omega)
          refine x_iloadn (pc := 41) dX1_surveyOfLength_41 rfl ?_
          refine x_iload (pc := 42) dX1_surveyOfLength_42 rfl ?_
          refine x_iadd (pc := 44) dX1_surveyOfLength_44 ?_
          refine x_iloadn (pc := 45) dX1_surveyOfLength_45 rfl ?_
          refine x_cgt (tgt := 132) (pc := 46) dX1_surveyOfLength_46 (by decide) (by omega) (fun c_46 => ?_) (fun c_46 => ?_)
          · skip
            exact absurd c_46 (by omega)
          refine x_iloadn (pc := 49) dX1_surveyOfLength_49 rfl ?_
          refine x_iloadn (pc := 50) dX1_surveyOfLength_50 rfl ?_
          refine x_isub (pc := 51) dX1_surveyOfLength_51 ?_
          refine x_iload (pc := 52) dX1_surveyOfLength_52 rfl ?_
          refine x_isub (pc := 54) dX1_surveyOfLength_54 ?_
          rw [hsub]
          refine x_istore (pc := 55) dX1_surveyOfLength_55 (by decide) rfl ?_
          refine x_aloadn (pc := 57) dX1_surveyOfLength_57 rfl ?_
          refine x_getR (52) (pc := 58) dX1_surveyOfLength_58 fl_X1_27 k_46 (hL 46 (by decide) (by decide)) (f_46_5 hF) ?_
          refine x_iconst (pc := 61) dX1_surveyOfLength_61 ?_
          refine x_iald (2) (pc := 62) dX1_surveyOfLength_62 k_52 (hL 52 (by decide) (by decide)) (⟨rfl, by decide, by decide⟩) ?_
          rw [e52]
          refine x_iload (pc := 63) dX1_surveyOfLength_63 rfl ?_
          refine x_aloadn (pc := 65) dX1_surveyOfLength_65 rfl ?_
          refine x_getR (53) (pc := 66) dX1_surveyOfLength_66 fl_X1_30 k_46 (hL 46 (by decide) (by decide)) (f_46_6 hF) ?_
          refine x_iconst (pc := 69) dX1_surveyOfLength_69 ?_
          refine x_iald (3) (pc := 70) dX1_surveyOfLength_70 k_53 (hL 53 (by decide) (by decide)) (⟨rfl, by decide, by decide⟩) ?_
          rw [e533]
          refine x_isub (pc := 71) dX1_surveyOfLength_71 ?_
          refine x_mmax (pc := 72) dX1_surveyOfLength_72 lk_X1_115 (by omega) (Nat.le_of_ble_eq_true rfl) (by omega) ?_
          rw [hy]
          refine x_istore (pc := 75) dX1_surveyOfLength_75 (by decide) rfl ?_
          have e2 : G 53 2 = mo 2 := by rw [p3 _ (by decide)]; exact l2.2.1
          exact l_an_slz hL hF e2 (by omega) (by omega) (next G _ ent)
theorem l_an_slw {t : Nat} {G0 : Nat → Nat → Int} (hL : x_SL L) (hE : cEq m S I G0) (hb : cBd lo hi mk G0) (hrw : cRW L G0) (hlm : cLM lo mo G0) (hmo : ∀ u, u < 4 → mo u = if zub S I (2 * m) u = 0 then 0 else hi u) (ht : t ≤ 32) :
    ∀ (k w : Nat) (G : Nat → Nat → Int) (o4 o5 o6 : Option (Nat × Int)), w + k = 9 → lo 0 ≤ w → pSL L G0 m S I lo hi mk (729 * t + 81 * w) G →
    X mX1_surveyOfLength 6 0 0 (qV L fun G' => pSL L G0 m S I lo hi mk (729 * (t + 1)) G') 7 [some (vR 46), some (vR 4), some (vI t), some (vI w), o4, o5, o6] [] L G 0 0 := by
  have l0 := hlm 0 (by decide)
  have l1 := hlm 1 (by decide)
  intro k
  induction k with
  | zero =>
    intro w G o4 o5 o6 hw hw1 hP
    obtain ⟨p1, p2, p3, hF⟩ := id hP
    have e53 : G 53 0 = mo 0 := by rw [p3 _ (by decide)]; exact l0.2.1
    have hw9 : w = 9 := by omega
    subst hw9
    refine x_iloadn (pc := 7) dX1_surveyOfLength_7 rfl ?_
    refine x_aloadn (pc := 8) dX1_surveyOfLength_8 rfl ?_
    refine x_getR (53) (pc := 9) dX1_surveyOfLength_9 fl_X1_30 k_46 (hL 46 (by decide) (by decide)) (f_46_6 hF) ?_
    refine x_iconst (pc := 12) dX1_surveyOfLength_12 ?_
    refine x_iald (0) (pc := 13) dX1_surveyOfLength_13 k_53 (hL 53 (by decide) (by decide)) (⟨rfl, by decide, by decide⟩) ?_
    refine x_cgt (tgt := 138) (pc := 14) dX1_surveyOfLength_14 (by decide) (by omega) (fun c_14 => ?_) (fun c_14 => ?_)
    rotate_left
    · skip
      exact absurd c_14 (by omega)
    refine x_rV (pc := 138) dX1_surveyOfLength_138 rfl ?_
    rw [show 729 * (t + 1) = 729 * t + 81 * 9 by omega]
    exact hP
  | succ k ih =>
    intro w G o4 o5 o6 hw hw1 hP
    obtain ⟨p1, p2, p3, hF⟩ := id hP
    have e53 : G 53 0 = mo 0 := by rw [p3 _ (by decide)]; exact l0.2.1
    have e52 : G 52 1 = lo 1 := by rw [p3 _ (by decide)]; exact l1.1
    have out : (mo 0 < w ∨ t < w) → pSL L G0 m S I lo hi mk (729 * (t + 1)) G := fun q => ⟨p1.skip (by omega) (fun c h1 h2 => by
      rcases Nat.eq_zero_or_pos (zWc m S I lo hi mk c) with e | e
      · exact e
      · obtain ⟨w', x', y', d1, d2, d3, d4⟩ := zdig (t := t) (c := c) (by omega) (by omega)
        have hw' : w ≤ w' := by omega
        have := zWc_t hmo e d4 d1 d2 d3
        omega), p2, p3, hF⟩
    have ent : pSL L G0 m S I lo hi mk (729 * t + 81 * w + 9 * lo 1) G := ⟨p1.skip (by omega) (fun c h1 h2 => by
      rcases Nat.eq_zero_or_pos (zWc m S I lo hi mk c) with e | e
      · exact e
      · obtain ⟨w', x', y', d1, d2, d3, d4⟩ := zdig (t := t) (c := c) (by omega) (by omega)
        have hw' : w' = w := by omega
        have hx' : x' < lo 1 := by omega
        have := zWc_t hmo e d4 d1 d2 d3
        omega), p2, p3, hF⟩
    refine x_iloadn (pc := 7) dX1_surveyOfLength_7 rfl ?_
    refine x_aloadn (pc := 8) dX1_surveyOfLength_8 rfl ?_
    refine x_getR (53) (pc := 9) dX1_surveyOfLength_9 fl_X1_30 k_46 (hL 46 (by decide) (by decide)) (f_46_6 hF) ?_
    refine x_iconst (pc := 12) dX1_surveyOfLength_12 ?_
    refine x_iald (0) (pc := 13) dX1_surveyOfLength_13 k_53 (hL 53 (by decide) (by decide)) (⟨rfl, by decide, by decide⟩) ?_
    refine x_cgt (tgt := 138) (pc := 14) dX1_surveyOfLength_14 (by decide) (by omega) (fun c_14 => ?_) (fun c_14 => ?_)
    · skip
      refine x_rV (pc := 138) dX1_surveyOfLength_138 rfl ?_
      exact out (by omega)
    · skip
      refine x_iloadn (pc := 17) dX1_surveyOfLength_17 rfl ?_
      refine x_iloadn (pc := 18) dX1_surveyOfLength_18 rfl ?_
      refine x_cgt (tgt := 138) (pc := 19) dX1_surveyOfLength_19 (by decide) (by omega) (fun c_19 => ?_) (fun c_19 => ?_)
      · skip
        refine x_rV (pc := 138) dX1_surveyOfLength_138 rfl ?_
        exact out (by omega)
      · skip
        refine x_aloadn (pc := 22) dX1_surveyOfLength_22 rfl ?_
        refine x_getR (52) (pc := 23) dX1_surveyOfLength_23 fl_X1_27 k_46 (hL 46 (by decide) (by decide)) (f_46_5 hF) ?_
        refine x_iconst (pc := 26) dX1_surveyOfLength_26 ?_
        refine x_iald (1) (pc := 27) dX1_surveyOfLength_27 k_52 (hL 52 (by decide) (by decide)) (⟨rfl, by decide, by decide⟩) ?_
        rw [e52]
        refine x_istore (pc := 28) dX1_surveyOfLength_28 (by decide) rfl ?_
        refine l_an_slx hL hE hb hrw hlm hmo ht ⟨hw1, by omega⟩ (fun G1 o4 o5 o6 b => ?_) (9 - lo 1) (lo 1) G _ _ (by omega) (Nat.le_refl _) ent
        refine x_iinc (pc := 132) dX1_surveyOfLength_132 rfl (by decide) rfl ?_
        refine x_goto (tgt := 7) (pc := 135) dX1_surveyOfLength_135 (by decide) ?_
        exact ih (w + 1) G1 _ _ _ (by omega) (by omega) (by rw [show 729 * t + 81 * (w + 1) = 729 * t + 81 * w + 81 by omega]; exact b)
theorem c_an_survOf {t : Nat} {G : Nat → Nat → Int} (hL : x_SL L) (hF : x_Fin xFL G) (hE : cEq m S I G) (hb : cBd lo hi mk G) (hrw : cRW L G) (hlm : cLM lo mo G) (hmo : ∀ u, u < 4 → mo u = if zub S I (2 * m) u = 0 then 0 else hi u) (ht : t ≤ 32) (hS : zSu (zWc m S I lo hi mk) (zVc m S I mk) (729 * t) G) :
    CM yX1_surveyOfLength mX1_surveyOfLength 6 0 0 [vR 46, vR 4, vI t] L G (qV L fun G' => pSL L G m S I lo hi mk (729 * (t + 1)) G') := by
  have l0 := hlm 0 (by decide)
  refine Ct.of_X (μ := mX1_surveyOfLength) rfl rfl (by decide) (fun h => by cases h) (Nat.le_of_ble_eq_true rfl) rfl ?_
  refine x_aloadn (pc := 0) dX1_surveyOfLength_0 rfl ?_
  refine x_getR (52) (pc := 1) dX1_surveyOfLength_1 fl_X1_27 k_46 (hL 46 (by decide) (by decide)) (f_46_5 hF) ?_
  refine x_iconst (pc := 4) dX1_surveyOfLength_4 ?_
  refine x_iald (0) (pc := 5) dX1_surveyOfLength_5 k_52 (hL 52 (by decide) (by decide)) (⟨rfl, by decide, by decide⟩) ?_
  rw [l0.1]
  refine x_istoren (pc := 6) dX1_surveyOfLength_6 rfl (by decide) rfl ?_
  refine l_an_slw hL hE hb hrw hlm hmo ht (9 - lo 0) (lo 0) G _ _ _ (by omega) (Nat.le_refl _) ⟨hS.skip (by omega) (fun c h1 h2 => ?_), fun _ _ _ => rfl, FR.rf, hF⟩
  rcases Nat.eq_zero_or_pos (zWc m S I lo hi mk c) with e | e
  · exact e
  · obtain ⟨w', x', y', d1, d2, d3, d4⟩ := zdig (t := t) (c := c) (by omega) (by omega)
    have hw' : w' < lo 0 := by omega
    have := zWc_t hmo e d4 d1 d2 d3
    omega
end XSW

