/-! the class: chosen, foundByIt -/
section XCO
variable {L : List Nat} {S : Nat → Nat} {I : Nat → Nat → Nat}
theorem c_ch_chosen {e i : Nat} {G : Nat → Nat → Int} (hL : x_SL L) (hF : x_Fin xFL G) (he : e < 4) (hi : i < 2147483648) (hK : cKp L (zsk (zs0 S I e)) e G) :
    CM yX2_chosen mX2_chosen 1 0 0 [vR 66, vI e, vI i] L G (qI L fun x G' => zPuP S I i e x ∧ G' = G) := by
  refine Ct.of_X (μ := mX2_chosen) rfl rfl (by decide) (fun h => by cases h) (Nat.le_of_ble_eq_true rfl) rfl ?_
  rcases hK with ⟨h1, h2⟩ | ⟨D, m, hE, hm, h2, hqL, hst, hsv⟩
  · skip
    refine x_iloadn (pc := 0) dX2_chosen_0 rfl ?_
    refine x_cSNI (pc := 1) dX2_chosen_1 lk_X2_43 (c_ts_none (by omega)) (⟨by decide, by decide⟩) (Nat.le_of_ble_eq_true rfl) rfl ?_
    rintro x G' ⟨rfl, h_G⟩
    obtain rfl := h_G.symm
    refine x_ine (tgt := 37) (pc := 4) dX2_chosen_4 (by decide) (by split <;> omega) (fun c_4 => ?_) (fun c_4 => ?_)
    · skip
      exact absurd c_4 (by rw [if_pos (by omega)]; omega)
    refine x_iloadn (pc := 7) dX2_chosen_7 rfl ?_
    refine x_ilt (tgt := 37) (pc := 8) dX2_chosen_8 (by decide) (by omega) (fun c_8 => ?_) (fun c_8 => ?_)
    · skip
      refine x_iconst (pc := 37) dX2_chosen_37 ?_
      refine x_rI (pc := 38) dX2_chosen_38 rfl ?_
      exact ⟨Or.inl ⟨h1, rfl⟩, rfl⟩
    · skip
      refine x_iloadn (pc := 11) dX2_chosen_11 rfl ?_
      refine x_aloadn (pc := 12) dX2_chosen_12 rfl ?_
      refine x_getR (70) (pc := 13) dX2_chosen_13 fl_X2_22 k_66 (hL 66 (by decide) (by decide)) (f_66_3 hF) ?_
      refine x_iloadn (pc := 16) dX2_chosen_16 rfl ?_
      refine x_iald (e) (pc := 17) dX2_chosen_17 k_70 (hL 70 (by decide) (by decide)) (⟨by omega, by omega, by decide⟩) ?_
      rw [h2]
      refine x_cge (tgt := 37) (pc := 18) dX2_chosen_18 (by decide) (by omega) (fun c_18 => ?_) (fun c_18 => ?_)
      rotate_left
      · skip
        exact absurd c_18 (by omega)
      refine x_iconst (pc := 37) dX2_chosen_37 ?_
      refine x_rI (pc := 38) dX2_chosen_38 rfl ?_
      exact ⟨Or.inl ⟨h1, rfl⟩, rfl⟩
  · obtain ⟨q, hq⟩ : ∃ q, q = 169 + e := ⟨_, rfl⟩
    have hkq : xK q = (13, 1500) := by rw [hq]; exact k_st he
    rw [← hq] at hqL hst hsv
    have hq1 : 169 ≤ q := by omega
    clear hq
    have hz : i < m → G q (m - 1 - i) = ((zenc (zsk (zs0 S I e)) (zcb (zsk (zs0 S I e)) (zcd (zcb (zsk (zs0 S I e))) D (m - 1 - i))) : Nat) : Int) := fun w => hsv _ (by omega)
    refine x_iloadn (pc := 0) dX2_chosen_0 rfl ?_
    refine x_cSNI (pc := 1) dX2_chosen_1 lk_X2_43 (c_ts_none (by omega)) (⟨by decide, by decide⟩) (Nat.le_of_ble_eq_true rfl) rfl ?_
    rintro x G' ⟨rfl, h_G⟩
    obtain rfl := h_G.symm
    refine x_ine (tgt := 37) (pc := 4) dX2_chosen_4 (by decide) (by split <;> omega) (fun c_4 => ?_) (fun c_4 => ?_)
    · skip
      exact absurd c_4 (by rw [if_pos (by omega)]; omega)
    refine x_iloadn (pc := 7) dX2_chosen_7 rfl ?_
    refine x_ilt (tgt := 37) (pc := 8) dX2_chosen_8 (by decide) (by omega) (fun c_8 => ?_) (fun c_8 => ?_)
    · skip
      refine x_iconst (pc := 37) dX2_chosen_37 ?_
      refine x_rI (pc := 38) dX2_chosen_38 rfl ?_
      exact ⟨Or.inr ⟨D, m, hE, by rw [if_neg (by omega)]⟩, rfl⟩
    · skip
      refine x_iloadn (pc := 11) dX2_chosen_11 rfl ?_
      refine x_aloadn (pc := 12) dX2_chosen_12 rfl ?_
      refine x_getR (70) (pc := 13) dX2_chosen_13 fl_X2_22 k_66 (hL 66 (by decide) (by decide)) (f_66_3 hF) ?_
      refine x_iloadn (pc := 16) dX2_chosen_16 rfl ?_
      refine x_iald (e) (pc := 17) dX2_chosen_17 k_70 (hL 70 (by decide) (by decide)) (⟨by omega, by omega, by decide⟩) ?_
      rw [h2]
      refine x_cge (tgt := 37) (pc := 18) dX2_chosen_18 (by decide) (by omega) (fun c_18 => ?_) (fun c_18 => ?_)
      · skip
        refine x_iconst (pc := 37) dX2_chosen_37 ?_
        refine x_rI (pc := 38) dX2_chosen_38 rfl ?_
        exact ⟨Or.inr ⟨D, m, hE, by rw [if_neg (by omega)]⟩, rfl⟩
      · skip
        refine x_aloadn (pc := 21) dX2_chosen_21 rfl ?_
        refine x_getR (70) (pc := 22) dX2_chosen_22 fl_X2_22 k_66 (hL 66 (by decide) (by decide)) (f_66_3 hF) ?_
        refine x_iloadn (pc := 25) dX2_chosen_25 rfl ?_
        refine x_iald (e) (pc := 26) dX2_chosen_26 k_70 (hL 70 (by decide) (by decide)) (⟨by omega, by omega, by decide⟩) ?_
        rw [h2]
        refine x_aloadn (pc := 27) dX2_chosen_27 rfl ?_
        refine x_getR (78) (pc := 28) dX2_chosen_28 fl_X2_36 k_66 (hL 66 (by decide) (by decide)) (f_66_7 hF) ?_
        refine x_iloadn (pc := 31) dX2_chosen_31 rfl ?_
        refine x_aald (q) _ (pc := 32) dX2_chosen_32 k_78 (by decide) (hL 78 (by decide) (by decide)) (⟨rfl, by omega, by decide⟩) (hst) ?_
        refine x_alen (pc := 33) dX2_chosen_33 hkq (by decide) hqL ?_
        refine x_cle (tgt := 39) (pc := 34) dX2_chosen_34 (by decide) (by omega) (fun c_34 => ?_) (fun c_34 => ?_)
        rotate_left
        · skip
          exact absurd c_34 (by omega)
        obtain ⟨j, hj⟩ : ∃ j, j = m - 1 - i := ⟨_, rfl⟩
        have hjj : ((m : Nat) : Int) - 1 - ((i : Nat) : Int) = ((j : Nat) : Int) := by omega
        have hz := hz (by omega)
        rw [← hj] at hz
        obtain ⟨w, hw⟩ : ∃ w, w = zenc (zsk (zs0 S I e)) (zcb (zsk (zs0 S I e)) (zcd (zcb (zsk (zs0 S I e))) D j)) := ⟨_, rfl⟩
        have hw4 : w % 4 = zcb (zsk (zs0 S I e)) (zcd (zcb (zsk (zs0 S I e))) D j) % 4 := by rw [hw]; unfold zenc; omega
        rw [← hw] at hz
        refine x_aloadn (pc := 39) dX2_chosen_39 rfl ?_
        refine x_getR (78) (pc := 40) dX2_chosen_40 fl_X2_36 k_66 (hL 66 (by decide) (by decide)) (f_66_7 hF) ?_
        refine x_iloadn (pc := 43) dX2_chosen_43 rfl ?_
        refine x_aald (q) _ (pc := 44) dX2_chosen_44 k_78 (by decide) (hL 78 (by decide) (by decide)) (⟨rfl, by omega, by decide⟩) (hst) ?_
        refine x_aloadn (pc := 45) dX2_chosen_45 rfl ?_
        refine x_getR (70) (pc := 46) dX2_chosen_46 fl_X2_22 k_66 (hL 66 (by decide) (by decide)) (f_66_3 hF) ?_
        refine x_iloadn (pc := 49) dX2_chosen_49 rfl ?_
        refine x_iald (e) (pc := 50) dX2_chosen_50 k_70 (hL 70 (by decide) (by decide)) (⟨by omega, by omega, by decide⟩) ?_
        rw [h2]
        refine x_iconst (pc := 51) dX2_chosen_51 ?_
        refine x_isub (pc := 52) dX2_chosen_52 ?_
        refine x_iloadn (pc := 53) dX2_chosen_53 rfl ?_
        refine x_isub (pc := 54) dX2_chosen_54 ?_
        rw [hjj]
        refine x_iald (j) (pc := 55) dX2_chosen_55 hkq hqL (⟨by omega, by omega, by decide⟩) ?_
        rw [hz]
        refine x_iconst (pc := 56) dX2_chosen_56 ?_
        refine x_iandm (pc := 57) dX2_chosen_57 2 4 (by decide) (by decide) (by decide) ?_
        refine x_rI (pc := 58) dX2_chosen_58 rfl ?_
        refine ⟨Or.inr ⟨D, m, hE, ?_⟩, rfl⟩
        rw [if_pos (by omega), ← hj, ← hw4]
        omega
end XCO

