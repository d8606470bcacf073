/-! the class: take, item, bounds, tell -/
theorem zst_ok {c e s : Nat} {S : Nat → Nat} {I : Nat → Nat → Nat} (h : zst c (e, s, S, I) ≠ none) : (c = 61 → s = 0) ∧ (c = 59 → s = 1 ∧ e < 3) ∧ (c ≠ 32 → zitem c ≠ -1 → S (2 * e + s) < 12) ∧ (c = 32 ∨ c = 61 ∨ c = 59 ∨ zitem c ≠ -1) := by
  rw [zst_eq] at h
  by_cases a : c = 32
  · exact ⟨by omega, by omega, by omega, Or.inl a⟩
  · rw [if_neg a] at h
    have hg := zitem_ge c
    by_cases b : zitem c ≠ -1 ∧ S (2 * e + s) < 12
    · exact ⟨by omega, by omega, fun _ _ => b.2, Or.inr (Or.inr (Or.inr b.1))⟩
    · rw [if_neg b] at h
      by_cases d : c = 61 ∧ s = 0
      · exact ⟨fun _ => d.2, by omega, by omega, Or.inr (Or.inl d.1)⟩
      · rw [if_neg d] at h
        by_cases f : c = 59 ∧ s = 1 ∧ e < 3
        · exact ⟨by omega, fun _ => f.2, by omega, Or.inr (Or.inr (Or.inl f.1))⟩
        · rw [if_neg f] at h; exact absurd rfl h
theorem FQ.mono {S T : List Nat} {lo hi : Nat} {G G1 : Nat → Nat → Int} (h : FQ S lo hi G G1) (k : ∀ i, i ∈ S → i ∈ T) : FQ T lo hi G G1 := fun i a c => h i (fun q => a (k i q)) c
abbrev pTe (L : List Nat) (G0 : Nat → Nat → Int) (z : Int × zW) : x_Q := qV L fun G' => cEq (z.2.1 + 1) z.2.2.2.1 z.2.2.2.2 G' ∧ FQ [4] 6 46 G0 G' ∧ x_Fin xFL G'
theorem cTx_FQ {n : Nat} {b : Nat → Nat} {G G' : Nat → Nat → Int} (h : cTx n b G) (hR : FQ [4] 6 46 G G') : cTx n b G' := ⟨by rw [hR 2 (by decide) (by decide)]; exact h.1, h.2.1, fun i hi => by rw [hR 3 (by decide) (by decide)]; exact h.2.2 i hi⟩
theorem cSd.row {r n : Nat} {I J : Nat → Nat → Nat} {q : Nat} {G : Nat → Nat → Int} (h : cSd r n I q G) (hJ : ∀ j, j < n → J q j = I q j) : cSd r n J q G := h.cg (fun _ => rfl) (fun _ => rfl) (fun _ => rfl) hJ
theorem l_Tx_te {n : Nat} {b : Nat → Nat} {z : Int × zW} {L : List Nat} {G0 : Nat → Nat → Int} (hL : x_SL L) (hT : cTx n b G0) (hz1 : z.1 = -1) : ∀ (k i e s : Nat) (S : Nat → Nat) (I : Nat → Nat → Nat) (G : Nat → Nat → Int) (o4 : Option (Nat × Int)), i + k = n → (s = 0 ∨ s = 1) → e ≤ 3 → (∀ q, 2 * e + s < q → S q = 0) → cEq (e + 1) S I G → FQ [4] 6 46 G0 G → x_Fin xFL G → zrun b k i (e, s, S, I) = z →
    X mX9_tellEquations 4 0 0 (pTe L G0 z) 8 [some (vR 2), some (vR 4), some (vI s), some (vI i), o4] [] L G 0 0 := by
  intro k
  induction k with
  | zero =>
    intro i e s S I G o4 hi hs he hS hE hR hF hz
    obtain ⟨h1, h2, h3⟩ := cTx_FQ hT hR
    subst hz
    refine x_iloadn (pc := 8) dX9_tellEquations_8 rfl ?_
    refine x_aloadn (pc := 9) dX9_tellEquations_9 rfl ?_
    refine x_getI (pc := 10) dX9_tellEquations_10 fl_X9_15 k_2 (hL 2 (by decide) (by decide)) ?_
    refine x_cge (tgt := 80) (pc := 13) dX9_tellEquations_13 (by decide) (by omega) (fun c_13 => ?_) (fun c_13 => ?_)
    rotate_left
    · skip
      exact absurd c_13 (by omega)
    refine x_rV (pc := 80) dX9_tellEquations_80 rfl ?_
    exact ⟨hE, hR, hF⟩
  | succ k ih =>
    intro i e s S I G o4 hi hs he hS hE hR hF hz
    obtain ⟨h1, h2, h3⟩ := cTx_FQ hT hR
    have hbi := h3 i (by omega)
    have hzg := zitem_ge (b i)
    have hzb := zitem_bd (b i)
    have hne : zst (b i) (e, s, S, I) ≠ none := fun q => by
      rw [zrun_n q] at hz
      rw [← hz] at hz1
      have hz1 : (i : Int) = -1 := hz1
      omega
    obtain ⟨k1, k2, k3, k4⟩ := zst_ok hne
    obtain ⟨E1, E2, E3⟩ := id hE
    have hxs := eq_sd (k := 2 * (e + 1 - 1) + s) (by omega)
    have e0 : 2 * (e + 1 - 1) + s = 2 * e + s := by omega
    have tl : ∀ (e' s' : Nat) (S' : Nat → Nat) (I' : Nat → Nat → Nat) (G' : Nat → Nat → Int) (U : Int) (p4 : Option (Nat × Int)), U = s' → zst (b i) (e, s, S, I) = some (e', s', S', I') → (s' = 0 ∨ s' = 1) → e' ≤ 3 → (∀ q, 2 * e' + s' < q → S' q = 0) → cEq (e' + 1) S' I' G' → FQ [4] 6 46 G0 G' → x_Fin xFL G' →
        X mX9_tellEquations 4 0 0 (pTe L G0 z) 74 [some (vR 2), some (vR 4), some (vI U), some (vI i), p4] [] L G' 0 0 := by
      intro e' s' S' I' G' U p4 hU hz' g1 g2 g3 g4 g5 g6
      subst hU
      refine x_iinc (pc := 74) dX9_tellEquations_74 rfl (by decide) rfl ?_
      refine x_goto (tgt := 8) (pc := 77) dX9_tellEquations_77 (by decide) ?_
      exact ih (i + 1) e' s' S' I' G' _ (by omega) g1 g2 g3 g4 g5 g6 (by rw [← hz, zrun_s hz'])
    refine x_iloadn (pc := 8) dX9_tellEquations_8 rfl ?_
    refine x_aloadn (pc := 9) dX9_tellEquations_9 rfl ?_
    refine x_getI (pc := 10) dX9_tellEquations_10 fl_X9_15 k_2 (hL 2 (by decide) (by decide)) ?_
    refine x_cge (tgt := 80) (pc := 13) dX9_tellEquations_13 (by decide) (by omega) (fun c_13 => ?_) (fun c_13 => ?_)
    · skip
      exact absurd c_13 (by omega)
    refine x_aloadn (pc := 16) dX9_tellEquations_16 rfl ?_
    refine x_getR (3) (pc := 17) dX9_tellEquations_17 fl_X9_9 k_2 (hL 2 (by decide) (by decide)) (f_2_0 hF) ?_
    refine x_iloadn (pc := 20) dX9_tellEquations_20 rfl ?_
    refine x_iald _ (pc := 21) dX9_tellEquations_21 k_3 (hL 3 (by decide) (by decide)) (⟨rfl, by omega, by decide⟩) ?_
    rw [hbi.1]
    refine x_istore (pc := 22) dX9_tellEquations_22 (by decide) rfl ?_
    refine x_iload (pc := 24) dX9_tellEquations_24 rfl ?_
    refine x_bipush (pc := 26) dX9_tellEquations_26 (by decide) ?_
    refine x_cne (tgt := 36) (pc := 28) dX9_tellEquations_28 (by decide) (by omega) (fun c_28 => ?_) (fun c_28 => ?_)
    · skip
      refine x_iload (pc := 36) dX9_tellEquations_36 rfl ?_
      refine x_bipush (pc := 38) dX9_tellEquations_38 (by decide) ?_
      refine x_cne (tgt := 52) (pc := 40) dX9_tellEquations_40 (by decide) (by omega) (fun c_40 => ?_) (fun c_40 => ?_)
      · skip
        refine x_iload (pc := 52) dX9_tellEquations_52 rfl ?_
        refine x_cSI (pc := 54) dX9_tellEquations_54 lk_X9_19 (c_Tx_itemOf (by omega)) (⟨by decide, by decide⟩) (Nat.le_of_ble_eq_true rfl) rfl ?_
        rintro x G' ⟨rfl, rfl⟩
        refine x_iconst (pc := 57) dX9_tellEquations_57 ?_
        refine x_ceq (tgt := 74) (pc := 58) dX9_tellEquations_58 (by decide) (by omega) (fun c_58 => ?_) (fun c_58 => ?_)
        · skip
          first
          | exact tl e s S I _ _ _ rfl (by rw [zst_eq, if_pos (by omega)]) hs he hS hE hR hF
          | exact tl e 1 S I _ _ _ rfl (by rw [zst_eq, if_neg (by omega), if_neg (by omega), if_pos (by omega)]) (Or.inr rfl) he (fun q hq => hS q (by omega)) hE hR hF
          | exact tl (e + 1) 0 S I _ _ _ rfl (by rw [zst_eq, if_neg (by omega), if_neg (by omega), if_neg (by omega), if_pos (by omega)]) (Or.inl rfl) (by omega) (fun q hq => hS q (by omega)) a1 (hR.tr a2) hF
          | (rw [e0] at a1 a2
             refine tl e s (zS1 S (2 * e + s)) (zI1 S I (2 * e + s) (zitem (b i)).toNat) _ _ _ rfl (by rw [zst_eq, if_neg (by omega), if_pos (by omega)]) hs he (fun q hq => by rw [zS1_n (by omega)]; exact hS q hq) ⟨?_, by omega, fun q hq => ?_⟩ (hR.tr (a2.q (by simp; omega))) hF
             · rw [a2 _ (by simp; omega)]; exact E1
             · by_cases c : q = 2 * e + s
               · subst c; rw [zS1_s]; exact a1
               · rw [zS1_n c]; exact ((E3 q hq).row (J := zI1 S I (2 * e + s) (zitem (b i)).toNat) (fun j hj => zI1_n (Or.inl c))).FR a2 (by simp; omega) (by simp; omega) (by simp; omega))
        · skip
          refine x_aloadn (pc := 61) dX9_tellEquations_61 rfl ?_
          refine x_iloadn (pc := 62) dX9_tellEquations_62 rfl ?_
          refine x_cVR (pc := 63) dX9_tellEquations_63 lk_X9_31 (c_Eq_last (m := e + 1) (s := s) hL hF E1 (by omega) (by omega)) k_4 ⟨by decide, rfl⟩ (hL 4 (by decide) (by decide)) (⟨by decide, by decide⟩) (Nat.le_of_ble_eq_true rfl) rfl ?_
          rintro q G' ⟨rfl, hG⟩
          subst hG
          refine x_iload (pc := 66) dX9_tellEquations_66 rfl ?_
          refine x_cSI (pc := 68) dX9_tellEquations_68 lk_X9_19 (c_Tx_itemOf (by omega)) (⟨by decide, by decide⟩) (Nat.le_of_ble_eq_true rfl) rfl ?_
          rintro x G' ⟨rfl, rfl⟩
          obtain ⟨v1, v2⟩ := zitem_V c_58
          rw [← v2]
          have hSd : cSd (6 + 5 * (2 * (e + 1 - 1) + s)) (S (2 * e + s)) I (2 * e + s) G' := by rw [e0]; exact E3 _ (by omega)
          refine x_cVV (pc := 71) dX9_tellEquations_71 lk_X9_35 (c_Sd_add (p := 2 * e + s) (J := zI1 S I (2 * e + s) (zitem (b i)).toNat) hxs hL hF hSd (by omega) v1 (fun j hj => zI1_n (Or.inr (by omega))) zI1_s) (sd_k hxs).1 ⟨by decide, rfl⟩ (sd_m hxs hL 0 (by decide)) (⟨by decide, by decide⟩) (Nat.le_of_ble_eq_true rfl) rfl ?_
          rintro G1 ⟨a1, a2, hF⟩
          first
          | exact tl e s S I _ _ _ rfl (by rw [zst_eq, if_pos (by omega)]) hs he hS hE hR hF
          | exact tl e 1 S I _ _ _ rfl (by rw [zst_eq, if_neg (by omega), if_neg (by omega), if_pos (by omega)]) (Or.inr rfl) he (fun q hq => hS q (by omega)) hE hR hF
          | exact tl (e + 1) 0 S I _ _ _ rfl (by rw [zst_eq, if_neg (by omega), if_neg (by omega), if_neg (by omega), if_pos (by omega)]) (Or.inl rfl) (by omega) (fun q hq => hS q (by omega)) a1 (hR.tr a2) hF
          | (rw [e0] at a1 a2
             refine tl e s (zS1 S (2 * e + s)) (zI1 S I (2 * e + s) (zitem (b i)).toNat) _ _ _ rfl (by rw [zst_eq, if_neg (by omega), if_pos (by omega)]) hs he (fun q hq => by rw [zS1_n (by omega)]; exact hS q hq) ⟨?_, by omega, fun q hq => ?_⟩ (hR.tr (a2.q (by simp; omega))) hF
             · rw [a2 _ (by simp; omega)]; exact E1
             · by_cases c : q = 2 * e + s
               · subst c; rw [zS1_s]; exact a1
               · rw [zS1_n c]; exact ((E3 q hq).row (J := zI1 S I (2 * e + s) (zitem (b i)).toNat) (fun j hj => zI1_n (Or.inl c))).FR a2 (by simp; omega) (by simp; omega) (by simp; omega))
      · skip
        refine x_iconst (pc := 43) dX9_tellEquations_43 ?_
        refine x_istoren (pc := 44) dX9_tellEquations_44 rfl (by decide) rfl ?_
        refine x_aloadn (pc := 45) dX9_tellEquations_45 rfl ?_
        refine x_cVV (pc := 46) dX9_tellEquations_46 lk_X9_28 (c_Eq_beginNext (m := e + 1) hL hF hE (by omega) (hS _ (by omega)) (hS _ (by omega))) k_4 ⟨by decide, rfl⟩ (hL 4 (by decide) (by decide)) (⟨by decide, by decide⟩) (Nat.le_of_ble_eq_true rfl) rfl ?_
        rintro G1 ⟨a1, a2, hF⟩
        refine x_goto (tgt := 74) (pc := 49) dX9_tellEquations_49 (by decide) ?_
        first
        | exact tl e s S I _ _ _ rfl (by rw [zst_eq, if_pos (by omega)]) hs he hS hE hR hF
        | exact tl e 1 S I _ _ _ rfl (by rw [zst_eq, if_neg (by omega), if_neg (by omega), if_pos (by omega)]) (Or.inr rfl) he (fun q hq => hS q (by omega)) hE hR hF
        | exact tl (e + 1) 0 S I _ _ _ rfl (by rw [zst_eq, if_neg (by omega), if_neg (by omega), if_neg (by omega), if_pos (by omega)]) (Or.inl rfl) (by omega) (fun q hq => hS q (by omega)) a1 (hR.tr a2) hF
        | (rw [e0] at a1 a2
           refine tl e s (zS1 S (2 * e + s)) (zI1 S I (2 * e + s) (zitem (b i)).toNat) _ _ _ rfl (by rw [zst_eq, if_neg (by omega), if_pos (by omega)]) hs he (fun q hq => by rw [zS1_n (by omega)]; exact hS q hq) ⟨?_, by omega, fun q hq => ?_⟩ (hR.tr (a2.q (by simp; omega))) hF
           · rw [a2 _ (by simp; omega)]; exact E1
           · by_cases c : q = 2 * e + s
             · subst c; rw [zS1_s]; exact a1
             · rw [zS1_n c]; exact ((E3 q hq).row (J := zI1 S I (2 * e + s) (zitem (b i)).toNat) (fun j hj => zI1_n (Or.inl c))).FR a2 (by simp; omega) (by simp; omega) (by simp; omega))
    · skip
      refine x_iconst (pc := 31) dX9_tellEquations_31 ?_
      refine x_istoren (pc := 32) dX9_tellEquations_32 rfl (by decide) rfl ?_
      refine x_goto (tgt := 74) (pc := 33) dX9_tellEquations_33 (by decide) ?_
      first
      | exact tl e s S I _ _ _ rfl (by rw [zst_eq, if_pos (by omega)]) hs he hS hE hR hF
      | exact tl e 1 S I _ _ _ rfl (by rw [zst_eq, if_neg (by omega), if_neg (by omega), if_pos (by omega)]) (Or.inr rfl) he (fun q hq => hS q (by omega)) hE hR hF
      | exact tl (e + 1) 0 S I _ _ _ rfl (by rw [zst_eq, if_neg (by omega), if_neg (by omega), if_neg (by omega), if_pos (by omega)]) (Or.inl rfl) (by omega) (fun q hq => hS q (by omega)) a1 (hR.tr a2) hF
      | (rw [e0] at a1 a2
         refine tl e s (zS1 S (2 * e + s)) (zI1 S I (2 * e + s) (zitem (b i)).toNat) _ _ _ rfl (by rw [zst_eq, if_neg (by omega), if_pos (by omega)]) hs he (fun q hq => by rw [zS1_n (by omega)]; exact hS q hq) ⟨?_, by omega, fun q hq => ?_⟩ (hR.tr (a2.q (by simp; omega))) hF
         · rw [a2 _ (by simp; omega)]; exact E1
         · by_cases c : q = 2 * e + s
           · subst c; rw [zS1_s]; exact a1
           · rw [zS1_n c]; exact ((E3 q hq).row (J := zI1 S I (2 * e + s) (zitem (b i)).toNat) (fun j hj => zI1_n (Or.inl c))).FR a2 (by simp; omega) (by simp; omega) (by simp; omega))
theorem c_Tx_tellEquations {n : Nat} {b : Nat → Nat} {L : List Nat} {G : Nat → Nat → Int} (hL : x_SL L) (hF : x_Fin xFL G) (hT : cTx n b G) (hz : (zrun b n 0 zw0).1 = -1) :
    CM yX9_tellEquations mX9_tellEquations 4 0 0 [vR 2, vR 4] L G (pTe L G (zrun b n 0 zw0)) := by
  refine Ct.of_X (μ := mX9_tellEquations) rfl rfl (by decide) (fun h => by cases h) (Nat.le_of_ble_eq_true rfl) rfl ?_
  refine x_aloadn (pc := 0) dX9_tellEquations_0 rfl ?_
  refine x_cVV (pc := 1) dX9_tellEquations_1 lk_X9_23 (c_Eq_begin (S := fun _ => 0) (I := fun _ _ => 0) hL hF rfl rfl) k_4 ⟨by decide, rfl⟩ (hL 4 (by decide) (by decide)) (⟨by decide, by decide⟩) (Nat.le_of_ble_eq_true rfl) rfl ?_
  rintro G1 ⟨a1, a2, hF⟩
  refine x_iconst (pc := 4) dX9_tellEquations_4 ?_
  refine x_istoren (pc := 5) dX9_tellEquations_5 rfl (by decide) rfl ?_
  refine x_iconst (pc := 6) dX9_tellEquations_6 ?_
  refine x_istoren (pc := 7) dX9_tellEquations_7 rfl (by decide) rfl ?_
  exact l_Tx_te hL hT hz n 0 0 0 (fun _ => 0) (fun _ _ => 0) G1 _ (by omega) (Or.inl rfl) (by decide) (fun _ _ => rfl) a1 a2 hF rfl
theorem c_an_forget {L : List Nat} {G : Nat → Nat → Int} (hL : x_SL L) (hF : x_Fin xFL G) :
    CM yX1_forget mX1_forget 0 0 0 [vR 46] L G (qV L fun G' => G' = x_up G 46 13 0 ∧ x_Fin xFL G') := by
  refine Ct.of_X (μ := mX1_forget) rfl rfl (by decide) (fun h => by cases h) (Nat.le_of_ble_eq_true rfl) rfl ?_
  refine x_aloadn (pc := 0) dX1_forget_0 rfl ?_
  refine x_iconst (pc := 1) dX1_forget_1 ?_
  refine x_putZF (pc := 2) dX1_forget_2 fp_X1_58 k_46 (hL 46 (by decide) (by decide)) (by omega) hF (fun hF => ?_)
  refine x_rV (pc := 5) dX1_forget_5 rfl ?_
  exact ⟨rfl, hF⟩
theorem l_ch_fg {L : List Nat} {G0 : Nat → Nat → Int} (hL : x_SL L) :
    ∀ (k i : Nat) (G : Nat → Nat → Int), i + k = 4 → (∀ j, j < i → G 67 j = 0) → FR [67] G0 G → x_Fin xFL G →
    X mX2_forget 1 0 0 (qV L fun G' => (∀ j, j < 4 → G' 67 j = 0) ∧ FR [67] G0 G' ∧ x_Fin xFL G') 2 [some (vR 66), some (vI i)] [] L G 0 0 := by
  intro k
  induction k with
  | zero =>
    intro i G hi h1 h2 hF
    have hi : i = 4 := by omega
    subst hi
    refine x_iloadn (pc := 2) dX2_forget_2 rfl ?_
    refine x_iconst (pc := 3) dX2_forget_3 ?_
    refine x_cge (tgt := 20) (pc := 4) dX2_forget_4 (by decide) (by omega) (fun c_4 => ?_) (fun c_4 => ?_)
    rotate_left
    · skip
      exact absurd c_4 (by omega)
    refine x_rV (pc := 20) dX2_forget_20 rfl ?_
    exact ⟨h1, h2, hF⟩
  | succ k ih =>
    intro i G hi h1 h2 hF
    refine x_iloadn (pc := 2) dX2_forget_2 rfl ?_
    refine x_iconst (pc := 3) dX2_forget_3 ?_
    refine x_cge (tgt := 20) (pc := 4) dX2_forget_4 (by decide) (by omega) (fun c_4 => ?_) (fun c_4 => ?_)
    · skip
      exact absurd c_4 (by omega)
    refine x_aloadn (pc := 7) dX2_forget_7 rfl ?_
    refine x_getR (67) (pc := 8) dX2_forget_8 fl_X2_9 k_66 (hL 66 (by decide) (by decide)) (f_66_0 hF) ?_
    refine x_iloadn (pc := 11) dX2_forget_11 rfl ?_
    refine x_iconst (pc := 12) dX2_forget_12 ?_
    refine x_zastF (i) (pc := 13) dX2_forget_13 k_67 (hL 67 (by decide) (by decide)) (⟨rfl, by omega, by omega⟩) (by omega) hF (fun hF => ?_)
    refine x_iinc (pc := 14) dX2_forget_14 rfl (by decide) rfl ?_
    refine x_goto (tgt := 2) (pc := 17) dX2_forget_17 (by decide) ?_
    refine ih (i + 1) _ (by omega) (fun j hj => ?_) (h2.up (by simp)) hF
    by_cases c : j = i
    · subst c; exact x_up_s
    · rw [x_up_k c]; exact h1 j (by omega)
theorem c_ch_forget {L : List Nat} {G : Nat → Nat → Int} (hL : x_SL L) (hF : x_Fin xFL G) :
    CM yX2_forget mX2_forget 1 0 0 [vR 66] L G (qV L fun G' => (∀ j, j < 4 → G' 67 j = 0) ∧ FR [67] G G' ∧ x_Fin xFL G') := by
  refine Ct.of_X (μ := mX2_forget) rfl rfl (by decide) (fun h => by cases h) (Nat.le_of_ble_eq_true rfl) rfl ?_
  refine x_iconst (pc := 0) dX2_forget_0 ?_
  refine x_istoren (pc := 1) dX2_forget_1 rfl (by decide) rfl ?_
  exact l_ch_fg hL 4 0 G (by omega) (fun j hj => absurd hj (Nat.not_lt_zero j)) FR.rf hF
theorem c_ts_take {n : Nat} {b : Nat → Nat} {L : List Nat} {G : Nat → Nat → Int} (hL : x_SL L) (hF : x_Fin xFL G) (hT : cTx n b G) :
    CM yX11_take mX11_take 5 0 0 [vR 1] L G (qI L fun x G' => ((zrun b n 0 zw0).1 ≠ -1 ∧ x = -4 ∧ G' = G) ∨ ((zrun b n 0 zw0).1 = -1 ∧ x = (((zrun b n 0 zw0).2.1 + 1 : Nat) : Int) ∧ cEq ((zrun b n 0 zw0).2.1 + 1) (zrun b n 0 zw0).2.2.2.1 (zrun b n 0 zw0).2.2.2.2 G' ∧ cTx 0 (fun _ => 0) G' ∧ G' 46 13 = 0 ∧ (∀ j, j ≠ 13 → G' 46 j = G 46 j) ∧ (∀ j, j < 4 → G' 67 j = 0) ∧ FQ [4, 2, 46, 67] 6 46 G G' ∧ x_Fin xFL G')) := by
  have hb := zrun_bd (b := b) n 0 zw0 (by have := hT.2.1; omega)
  refine Ct.of_X (μ := mX11_take) rfl rfl (by decide) (fun h => by cases h) (Nat.le_of_ble_eq_true rfl) rfl ?_
  refine x_aloadn (pc := 0) dX11_take_0 rfl ?_
  refine x_getR (2) (pc := 1) dX11_take_1 fl_X11_10 k_1 (hL 1 (by decide) (by decide)) (f_1_0 hF) ?_
  refine x_cVI (pc := 4) dX11_take_4 lk_X11_82 (c_Tx_firstFault hL hF hT) k_2 ⟨by decide, rfl⟩ (hL 2 (by decide) (by decide)) (⟨by decide, by decide⟩) (Nat.le_of_ble_eq_true rfl) rfl ?_
  rintro x G' ⟨rfl, rfl⟩
  refine x_iconst (pc := 7) dX11_take_7 ?_
  refine x_ceq (tgt := 14) (pc := 8) dX11_take_8 (by decide) (by omega) (fun c_8 => ?_) (fun c_8 => ?_)
  · skip
    refine x_aloadn (pc := 14) dX11_take_14 rfl ?_
    refine x_getR (2) (pc := 15) dX11_take_15 fl_X11_10 k_1 (hL 1 (by decide) (by decide)) (f_1_0 hF) ?_
    refine x_aloadn (pc := 18) dX11_take_18 rfl ?_
    refine x_getR (4) (pc := 19) dX11_take_19 fl_X11_19 k_1 (hL 1 (by decide) (by decide)) (f_1_1 hF) ?_
    refine x_cVV (pc := 22) dX11_take_22 lk_X11_85 (c_Tx_tellEquations hL hF hT c_8) k_2 ⟨by decide, rfl⟩ (hL 2 (by decide) (by decide)) (⟨by decide, by decide⟩) (Nat.le_of_ble_eq_true rfl) rfl ?_
    rintro G1 ⟨a1, a2, hF⟩
    refine x_aloadn (pc := 25) dX11_take_25 rfl ?_
    refine x_getR (2) (pc := 26) dX11_take_26 fl_X11_10 k_1 (hL 1 (by decide) (by decide)) (f_1_0 hF) ?_
    refine x_cVV (pc := 29) dX11_take_29 lk_X11_79 (c_Tx_empty hL hF) k_2 ⟨by decide, rfl⟩ (hL 2 (by decide) (by decide)) (⟨by decide, by decide⟩) (Nat.le_of_ble_eq_true rfl) rfl ?_
    rintro G2 ⟨b1, b2, hF⟩
    refine x_aloadn (pc := 32) dX11_take_32 rfl ?_
    refine x_getR (46) (pc := 33) dX11_take_33 fl_X11_26 k_1 (hL 1 (by decide) (by decide)) (f_1_2 hF) ?_
    refine x_cVV (pc := 36) dX11_take_36 lk_X11_89 (c_an_forget hL hF) k_46 ⟨by decide, rfl⟩ (hL 46 (by decide) (by decide)) (⟨by decide, by decide⟩) (Nat.le_of_ble_eq_true rfl) rfl ?_
    rintro G3 ⟨e1, hF⟩
    refine x_aloadn (pc := 39) dX11_take_39 rfl ?_
    refine x_getR (66) (pc := 40) dX11_take_40 fl_X11_33 k_1 (hL 1 (by decide) (by decide)) (f_1_3 hF) ?_
    refine x_cVV (pc := 43) dX11_take_43 lk_X11_92 (c_ch_forget hL hF) k_66 ⟨by decide, rfl⟩ (hL 66 (by decide) (by decide)) (⟨by decide, by decide⟩) (Nat.le_of_ble_eq_true rfl) rfl ?_
    rintro G4 ⟨d1, d2, hF⟩
    have f3 : FR [46] G2 G3 := by rw [e1]; exact FR.rf.up (by simp)
    have hE4 := ((a1.FR b2 (by simp)).FR f3 (by simp)).FR d2 (by simp)
    refine x_aloadn (pc := 46) dX11_take_46 rfl ?_
    refine x_getR (4) (pc := 47) dX11_take_47 fl_X11_19 k_1 (hL 1 (by decide) (by decide)) (f_1_1 hF) ?_
    refine x_cVI (pc := 50) dX11_take_50 lk_X11_93 (c_Eq_length hL hE4) k_4 ⟨by decide, rfl⟩ (hL 4 (by decide) (by decide)) (⟨by decide, by decide⟩) (Nat.le_of_ble_eq_true rfl) rfl ?_
    rintro x G' ⟨rfl, rfl⟩
    refine x_rI (pc := 53) dX11_take_53 rfl ?_
    refine Or.inr ⟨c_8, rfl, hE4, ?_, ?_, fun j hj => ?_, d1, ?_, hF⟩
    · refine ⟨?_, by decide, fun i hi => absurd hi (Nat.not_lt_zero i)⟩
      rw [d2 _ (by decide), f3 _ (by decide)]; exact b1.1
    · rw [d2 _ (by decide), e1, x_up_s]
    · rw [d2 _ (by decide), e1, x_up_k hj, b2 _ (by decide), a2 _ (by decide) (by decide)]
    · exact ((((a2.mono (by simp)).tr (b2.q (by simp))).tr (f3.q (by simp))).tr (d2.q (by simp)))
  · skip
    refine x_bipush (pc := 11) dX11_take_11 (by decide) ?_
    refine x_rI (pc := 13) dX11_take_13 rfl ?_
    exact Or.inl ⟨c_8, rfl, rfl⟩

