/-! the class: foundByIt -/
section XFB
variable {L : List Nat} {S : Nat → Nat} {I : Nat → Nat → Nat}
theorem l_ch_fbE {w : Nat → List Nat} {u e : Nat} {k : Int} {G0 G : Nat → Nat → Int} {P : Int → Prop} (hL : x_SL L) (hF : x_Fin xFL G) (hu : u < 4) (hk : -1 ≤ k ∧ k < 2147483648) (hw : cCw w G) (hQ : FR z_cwS G0 G)
    (hP : P (if k = -1 then (((w u).length : Nat) : Int) else if k < (((w u).length : Nat) : Int) then (((w u).getD k.toNat 0 : Nat) : Int) else -1)) :
    X mX2_foundByIt 4 0 0 (qI L fun x G' => P x ∧ FR z_cwS G0 G' ∧ x_Fin xFL G') 37 [some (vR 66), some (vI e), some (vI u), some (vI k)] [] L G 0 0 := by
  obtain ⟨w1, w2, w3⟩ := hw u hu
  have hkq := chw_k hu
  have hqL := chw_L hu hL
  have hqf := chw_f hu
  obtain ⟨q, hq⟩ : ∃ q, q = 73 + u := ⟨_, rfl⟩
  have hst : G 72 u = ((q : Nat) : Int) := by rw [hq]; exact hF _ hqf
  rw [← hq] at w3 hkq hqL
  have hq1 : 73 ≤ q := by omega
  clear hq
  refine x_iloadn (pc := 37) dX2_foundByIt_37 rfl ?_
  refine x_iconst (pc := 38) dX2_foundByIt_38 ?_
  refine x_cne (tgt := 49) (pc := 39) dX2_foundByIt_39 (by decide) (by omega) (fun c_39 => ?_) (fun c_39 => ?_)
  · skip
    refine x_iloadn (pc := 49) dX2_foundByIt_49 rfl ?_
    refine x_ilt (tgt := 63) (pc := 50) dX2_foundByIt_50 (by decide) (by omega) (fun c_50 => ?_) (fun c_50 => ?_)
    · skip
      refine x_iconst (pc := 63) dX2_foundByIt_63 ?_
      refine x_goto (tgt := 84) (pc := 64) dX2_foundByIt_64 (by decide) ?_
      refine x_rI (pc := 84) dX2_foundByIt_84 rfl ?_
      refine ⟨?_, hQ, hF⟩
      first
      | (rw [if_pos (by omega)] at hP; exact hP)
      | (rw [if_neg (by omega), if_pos (by omega), hk', Int.toNat_natCast] at hP; exact hP)
      | (rw [if_neg (by omega), if_neg (by omega)] at hP; exact hP)
    · skip
      refine x_iloadn (pc := 53) dX2_foundByIt_53 rfl ?_
      refine x_aloadn (pc := 54) dX2_foundByIt_54 rfl ?_
      refine x_getR (77) (pc := 55) dX2_foundByIt_55 fl_X2_33 k_66 (hL 66 (by decide) (by decide)) (f_66_6 hF) ?_
      refine x_iloadn (pc := 58) dX2_foundByIt_58 rfl ?_
      refine x_iald (u) (pc := 59) dX2_foundByIt_59 k_77 (hL 77 (by decide) (by decide)) (⟨by omega, by omega, by decide⟩) ?_
      rw [w1]
      refine x_clt (tgt := 67) (pc := 60) dX2_foundByIt_60 (by decide) (by omega) (fun c_60 => ?_) (fun c_60 => ?_)
      · skip
        obtain ⟨k', hk'⟩ : ∃ j : Nat, k = ((j : Nat) : Int) := ⟨k.toNat, by omega⟩
        obtain ⟨j, hj⟩ : ∃ j, j = (w u).length - 1 - k' := ⟨_, rfl⟩
        have hx := w3 j (by omega)
        rw [show (w u).length - 1 - j = k' by omega] at hx
        have hij : (((w u).length : Nat) : Int) - 1 - k = ((j : Nat) : Int) := by omega
        refine x_aloadn (pc := 67) dX2_foundByIt_67 rfl ?_
        refine x_getR (72) (pc := 68) dX2_foundByIt_68 fl_X2_30 k_66 (hL 66 (by decide) (by decide)) (f_66_5 hF) ?_
        refine x_iloadn (pc := 71) dX2_foundByIt_71 rfl ?_
        refine x_aald (q) _ (pc := 72) dX2_foundByIt_72 k_72 (by decide) (hL 72 (by decide) (by decide)) (⟨rfl, by omega, by decide⟩) (hst) ?_
        refine x_aloadn (pc := 73) dX2_foundByIt_73 rfl ?_
        refine x_getR (77) (pc := 74) dX2_foundByIt_74 fl_X2_33 k_66 (hL 66 (by decide) (by decide)) (f_66_6 hF) ?_
        refine x_iloadn (pc := 77) dX2_foundByIt_77 rfl ?_
        refine x_iald (u) (pc := 78) dX2_foundByIt_78 k_77 (hL 77 (by decide) (by decide)) (⟨by omega, by omega, by decide⟩) ?_
        rw [w1]
        refine x_iconst (pc := 79) dX2_foundByIt_79 ?_
        refine x_isub (pc := 80) dX2_foundByIt_80 ?_
        refine x_iloadn (pc := 81) dX2_foundByIt_81 rfl ?_
        refine x_isub (pc := 82) dX2_foundByIt_82 ?_
        rw [hij]
        refine x_iald (j) (pc := 83) dX2_foundByIt_83 hkq hqL (⟨by omega, by omega, by decide⟩) ?_
        rw [hx]
        refine x_rI (pc := 84) dX2_foundByIt_84 rfl ?_
        refine ⟨?_, hQ, hF⟩
        first
        | (rw [if_pos (by omega)] at hP; exact hP)
        | (rw [if_neg (by omega), if_pos (by omega), hk', Int.toNat_natCast] at hP; exact hP)
        | (rw [if_neg (by omega), if_neg (by omega)] at hP; exact hP)
      · skip
        refine x_iconst (pc := 63) dX2_foundByIt_63 ?_
        refine x_goto (tgt := 84) (pc := 64) dX2_foundByIt_64 (by decide) ?_
        refine x_rI (pc := 84) dX2_foundByIt_84 rfl ?_
        refine ⟨?_, hQ, hF⟩
        first
        | (rw [if_pos (by omega)] at hP; exact hP)
        | (rw [if_neg (by omega), if_pos (by omega), hk', Int.toNat_natCast] at hP; exact hP)
        | (rw [if_neg (by omega), if_neg (by omega)] at hP; exact hP)
  · skip
    refine x_aloadn (pc := 42) dX2_foundByIt_42 rfl ?_
    refine x_getR (77) (pc := 43) dX2_foundByIt_43 fl_X2_33 k_66 (hL 66 (by decide) (by decide)) (f_66_6 hF) ?_
    refine x_iloadn (pc := 46) dX2_foundByIt_46 rfl ?_
    refine x_iald (u) (pc := 47) dX2_foundByIt_47 k_77 (hL 77 (by decide) (by decide)) (⟨by omega, by omega, by decide⟩) ?_
    rw [w1]
    refine x_rI (pc := 48) dX2_foundByIt_48 rfl ?_
    refine ⟨?_, hQ, hF⟩
    first
    | (rw [if_pos (by omega)] at hP; exact hP)
    | (rw [if_neg (by omega), if_pos (by omega), hk', Int.toNat_natCast] at hP; exact hP)
    | (rw [if_neg (by omega), if_neg (by omega)] at hP; exact hP)
theorem c_ch_foundByIt {e u : Nat} {k : Int} {G : Nat → Nat → Int} (hL : x_SL L) (hF : x_Fin xFL G) (he : e < 4) (hu : u < 4) (hk : -1 ≤ k ∧ k < 2147483648) (h0 : zvS (zsk (zs0 S I e))) (hl : (zN (zsk (zs0 S I e)) 6000).length ≤ 1500) (hK : cKp L (zsk (zs0 S I e)) e G) :
    CM yX2_foundByIt mX2_foundByIt 4 0 0 [vR 66, vI e, vI u, vI k] L G (qI L fun x G' => zFoP S I u k e x ∧ FR z_cwS G G' ∧ x_Fin xFL G') := by
  refine Ct.of_X (μ := mX2_foundByIt) rfl rfl (by decide) (fun h => by cases h) (Nat.le_of_ble_eq_true rfl) rfl ?_
  rcases hK with ⟨h1, h2⟩ | ⟨D, m, hE, hm, h2, hqL, hst, hsv⟩
  · skip
    refine x_iloadn (pc := 0) dX2_foundByIt_0 rfl ?_
    refine x_cSNI (pc := 1) dX2_foundByIt_1 lk_X2_43 (c_ts_none (by omega)) (⟨by decide, by decide⟩) (Nat.le_of_ble_eq_true rfl) rfl ?_
    rintro x G' ⟨rfl, h_G⟩
    obtain rfl := h_G.symm
    refine x_ine (tgt := 24) (pc := 4) dX2_foundByIt_4 (by decide) (by split <;> omega) (fun c_4 => ?_) (fun c_4 => ?_)
    · skip
      exact absurd c_4 (by rw [if_pos (by omega)]; omega)
    refine x_iloadn (pc := 7) dX2_foundByIt_7 rfl ?_
    refine x_cSNI (pc := 8) dX2_foundByIt_8 lk_X2_43 (c_ts_none (by omega)) (⟨by decide, by decide⟩) (Nat.le_of_ble_eq_true rfl) rfl ?_
    rintro x G' ⟨rfl, h_G⟩
    obtain rfl := h_G.symm
    refine x_ine (tgt := 24) (pc := 11) dX2_foundByIt_11 (by decide) (by split <;> omega) (fun c_11 => ?_) (fun c_11 => ?_)
    · skip
      exact absurd c_11 (by rw [if_pos (by omega)]; omega)
    refine x_aloadn (pc := 14) dX2_foundByIt_14 rfl ?_
    refine x_getR (70) (pc := 15) dX2_foundByIt_15 fl_X2_22 k_66 (hL 66 (by decide) (by decide)) (f_66_3 hF) ?_
    refine x_iloadn (pc := 18) dX2_foundByIt_18 rfl ?_
    refine x_iald (e) (pc := 19) dX2_foundByIt_19 k_70 (hL 70 (by decide) (by decide)) (⟨by omega, by omega, by decide⟩) ?_
    rw [h2]
    refine x_iconst (pc := 20) dX2_foundByIt_20 ?_
    refine x_cne (tgt := 26) (pc := 21) dX2_foundByIt_21 (by decide) (by omega) (fun c_21 => ?_) (fun c_21 => ?_)
    · skip
      exact absurd rfl c_21
    refine x_iconst (pc := 24) dX2_foundByIt_24 ?_
    refine x_rI (pc := 25) dX2_foundByIt_25 rfl ?_
    exact ⟨Or.inl ⟨h1, rfl⟩, FR.rf, hF⟩
  · skip
    refine x_iloadn (pc := 0) dX2_foundByIt_0 rfl ?_
    refine x_cSNI (pc := 1) dX2_foundByIt_1 lk_X2_43 (c_ts_none (by omega)) (⟨by decide, by decide⟩) (Nat.le_of_ble_eq_true rfl) rfl ?_
    rintro x G' ⟨rfl, h_G⟩
    obtain rfl := h_G.symm
    refine x_ine (tgt := 24) (pc := 4) dX2_foundByIt_4 (by decide) (by split <;> omega) (fun c_4 => ?_) (fun c_4 => ?_)
    · skip
      exact absurd c_4 (by rw [if_pos (by omega)]; omega)
    refine x_iloadn (pc := 7) dX2_foundByIt_7 rfl ?_
    refine x_cSNI (pc := 8) dX2_foundByIt_8 lk_X2_43 (c_ts_none (by omega)) (⟨by decide, by decide⟩) (Nat.le_of_ble_eq_true rfl) rfl ?_
    rintro x G' ⟨rfl, h_G⟩
    obtain rfl := h_G.symm
    refine x_ine (tgt := 24) (pc := 11) dX2_foundByIt_11 (by decide) (by split <;> omega) (fun c_11 => ?_) (fun c_11 => ?_)
    · skip
      exact absurd c_11 (by rw [if_pos (by omega)]; omega)
    refine x_aloadn (pc := 14) dX2_foundByIt_14 rfl ?_
    refine x_getR (70) (pc := 15) dX2_foundByIt_15 fl_X2_22 k_66 (hL 66 (by decide) (by decide)) (f_66_3 hF) ?_
    refine x_iloadn (pc := 18) dX2_foundByIt_18 rfl ?_
    refine x_iald (e) (pc := 19) dX2_foundByIt_19 k_70 (hL 70 (by decide) (by decide)) (⟨by omega, by omega, by decide⟩) ?_
    rw [h2]
    refine x_iconst (pc := 20) dX2_foundByIt_20 ?_
    refine x_cne (tgt := 26) (pc := 21) dX2_foundByIt_21 (by decide) (by omega) (fun c_21 => ?_) (fun c_21 => ?_)
    rotate_left
    · skip
      exact absurd c_21 (by omega)
    refine x_aloadn (pc := 26) dX2_foundByIt_26 rfl ?_
    refine x_iloadn (pc := 27) dX2_foundByIt_27 rfl ?_
    refine x_cVI (pc := 28) dX2_foundByIt_28 lk_X2_82 (c_ch_buildWords (D := D) (m := m) hL hF h0 hl hE he (show 169 ≤ 169 + e by omega) (k_st he) hqL h2 hst hsv) k_66 ⟨by decide, rfl⟩ (hL 66 (by decide) (by decide)) (⟨by decide, by decide⟩) (Nat.le_of_ble_eq_true rfl) rfl ?_
    rintro x G2 ⟨hx, hQ, hF⟩
    refine x_ine (tgt := 37) (pc := 31) dX2_foundByIt_31 (by decide) (by rcases hx with ⟨w, _⟩ | ⟨w, _⟩ <;> omega) (fun c_31 => ?_) (fun c_31 => ?_)
    · skip
      rcases hx with ⟨_, w1, w2⟩ | ⟨w, _⟩
      · exact l_ch_fbE hL hF hu hk w2 hQ (Or.inr ⟨D, m, hE, Or.inr ⟨w1, rfl⟩⟩)
      · exact absurd w c_31
    · skip
      have hn : ¬ zwk (zsk (zs0 S I e)) D m := hx.elim (fun w => absurd w.1 (by omega)) (fun w => w.2)
      refine x_bipush (pc := 34) dX2_foundByIt_34 (by decide) ?_
      refine x_rI (pc := 36) dX2_foundByIt_36 rfl ?_
      exact ⟨Or.inr ⟨D, m, hE, Or.inl ⟨hn, rfl⟩⟩, hQ, hF⟩
end XFB

