/-! the class: classes begun, equations solved, words counted -/
section XFS
variable {m : Nat} {S : Nat → Nat} {I : Nat → Nat → Nat} {z lo hi mk : Nat → Nat} {L : List Nat}
theorem zba_3 {i : Nat} (h : i < 3) : zba z mk i = 2 ^ i := if_pos h
theorem zba_u {u k : Nat} (hu : u < 4) (hk : k < z u) : zba z mk (3 + zbg z u + k) = mk u := by
  unfold zba
  rw [if_neg (by omega), show 3 + zbg z u + k - 3 = zbg z u + k by omega, zun_at hu hk]
abbrev zbcS : List Nat := [56, 57, 58]
abbrev pBc (L : List Nat) (G0 : Nat → Nat → Int) (z mk : Nat → Nat) : x_Q := qV L fun G' => (∃ M, cAl 56 (3 + zbg z 4) (fun i => i) M G' ∧ ∀ i, i < 3 + zbg z 4 → M i = zba z mk i) ∧ FR zbcS G0 G' ∧ x_Fin xFL G'
theorem l_fi_bcK {u : Nat} {G0 : Nat → Nat → Int} (hL : x_SL L) (hz : cFL z G0) (hb : cBd lo hi mk G0) (hu : u < 4)
    (cont : ∀ (G : Nat → Nat → Int) (M : Nat → Nat) (o3 : Option (Nat × Int)), cAl 56 (3 + zbg z 4) (fun i => i) M G → (∀ i, i < 3 + zbg z (u + 1) → M i = zba z mk i) → FR zbcS G0 G → x_Fin xFL G → X mX4_beginClasses 2 0 0 (pBc L G0 z mk) 84 [some (vR 55), some (vR 49), some (vI u), o3] [] L G 0 0) :
    ∀ (r k : Nat) (M : Nat → Nat) (G : Nat → Nat → Int), k + r = z u → cAl 56 (3 + zbg z 4) (fun i => i) M G → (∀ i, i < 3 + zbg z u + k → M i = zba z mk i) → FR zbcS G0 G → x_Fin xFL G →
    X mX4_beginClasses 2 0 0 (pBc L G0 z mk) 50 [some (vR 55), some (vR 49), some (vI u), some (vI k)] [] L G 0 0 := by
  have hbs : zbg z (u + 1) = zbg z u + z u := rfl
  have hb4 := zbg_le (z := z) (show u + 1 ≤ 4 by omega)
  have hN := zbg_4 (fun u hu => (hz.2 u hu).2.2) 4 (Nat.le_refl _)
  intro r
  induction r with
  | zero =>
    intro k M G hk hA hM hQ hF
    have hz' : cFL z G := hz.FR hQ (by decide) (by decide) (by decide)
    obtain ⟨g1, g2, g3⟩ := hz'.2 u hu
    refine x_iloadn (pc := 50) dX4_beginClasses_50 rfl ?_
    refine x_aloadn (pc := 51) dX4_beginClasses_51 rfl ?_
    refine x_getR (59) (pc := 52) dX4_beginClasses_52 fl_X4_18 k_55 (hL 55 (by decide) (by decide)) (f_55_1 hF) ?_
    refine x_iloadn (pc := 55) dX4_beginClasses_55 rfl ?_
    refine x_iald (u) (pc := 56) dX4_beginClasses_56 k_59 (hL 59 (by decide) (by decide)) (⟨by omega, by omega, by decide⟩) ?_
    refine x_cge (tgt := 84) (pc := 57) dX4_beginClasses_57 (by decide) (by omega) (fun c_57 => ?_) (fun c_57 => ?_)
    rotate_left
    · skip
      exact absurd c_57 (by omega)
    exact cont G M _ hA (fun i hi => hM i (by omega)) hQ hF
  | succ r ih =>
    intro k M G hk hA hM hQ hF
    have hz' : cFL z G := hz.FR hQ (by decide) (by decide) (by decide)
    obtain ⟨g1, g2, g3⟩ := hz'.2 u hu
    have hl : G 49 u = mk u := by rw [hQ _ (by decide)]; exact (hb u hu).2.2.1
    have hl7 := (hb u hu).2.2.2.2.2
    refine x_iloadn (pc := 50) dX4_beginClasses_50 rfl ?_
    refine x_aloadn (pc := 51) dX4_beginClasses_51 rfl ?_
    refine x_getR (59) (pc := 52) dX4_beginClasses_52 fl_X4_18 k_55 (hL 55 (by decide) (by decide)) (f_55_1 hF) ?_
    refine x_iloadn (pc := 55) dX4_beginClasses_55 rfl ?_
    refine x_iald (u) (pc := 56) dX4_beginClasses_56 k_59 (hL 59 (by decide) (by decide)) (⟨by omega, by omega, by decide⟩) ?_
    refine x_cge (tgt := 84) (pc := 57) dX4_beginClasses_57 (by decide) (by omega) (fun c_57 => ?_) (fun c_57 => ?_)
    · skip
      exact absurd c_57 (by omega)
    refine x_aloadn (pc := 60) dX4_beginClasses_60 rfl ?_
    refine x_getR (56) (pc := 61) dX4_beginClasses_61 fl_X4_12 k_55 (hL 55 (by decide) (by decide)) (f_55_0 hF) ?_
    refine x_aloadn (pc := 64) dX4_beginClasses_64 rfl ?_
    refine x_getR (60) (pc := 65) dX4_beginClasses_65 fl_X4_22 k_55 (hL 55 (by decide) (by decide)) (f_55_2 hF) ?_
    refine x_iloadn (pc := 68) dX4_beginClasses_68 rfl ?_
    refine x_iald (u) (pc := 69) dX4_beginClasses_69 k_60 (hL 60 (by decide) (by decide)) (⟨by omega, by omega, by decide⟩) ?_
    rw [g2]
    refine x_iloadn (pc := 70) dX4_beginClasses_70 rfl ?_
    refine x_iadd (pc := 71) dX4_beginClasses_71 ?_
    rw [show ((3 + zbg z u : Nat) : Int) + (k : Int) = ((3 + zbg z u + k : Nat) : Int) by omega]
    refine x_aloadn (pc := 72) dX4_beginClasses_72 rfl ?_
    refine x_iloadn (pc := 73) dX4_beginClasses_73 rfl ?_
    refine x_iald (u) (pc := 74) dX4_beginClasses_74 k_49 (hL 49 (by decide) (by decide)) (⟨by omega, by omega, by decide⟩) ?_
    rw [hl]
    refine x_cVV (pc := 75) dX4_beginClasses_75 lk_X4_80 (c_Al_allow (Or.inl rfl) hL hF hA (a := 3 + zbg z u + k) (m := mk u) (by omega) (by omega)) k_56 ⟨by decide, rfl⟩ (hL 56 (by decide) (by decide)) (⟨by decide, by decide⟩) (Nat.le_of_ble_eq_true rfl) rfl ?_
    rintro G1 ⟨a1, a2, hF⟩
    refine x_iinc (pc := 78) dX4_beginClasses_78 rfl (by decide) rfl ?_
    refine x_goto (tgt := 50) (pc := 81) dX4_beginClasses_81 (by decide) ?_
    refine ih (k + 1) _ G1 (by omega) a1 (fun i hi => ?_) (hQ.tr (a2.mono (by decide))) hF
    by_cases e : i = 3 + zbg z u + k
    · rw [e, zup_s, zba_u hu (by omega)]
    · rw [zup_n e]; exact hM i (by omega)
theorem l_fi_bcU {G0 : Nat → Nat → Int} (hL : x_SL L) (hz : cFL z G0) (hb : cBd lo hi mk G0) :
    ∀ (r u : Nat) (M : Nat → Nat) (G : Nat → Nat → Int) (o3 : Option (Nat × Int)), u + r = 4 → cAl 56 (3 + zbg z 4) (fun i => i) M G → (∀ i, i < 3 + zbg z u → M i = zba z mk i) → FR zbcS G0 G → x_Fin xFL G →
    X mX4_beginClasses 2 0 0 (pBc L G0 z mk) 37 [some (vR 55), some (vR 49), some (vI u), o3] [] L G 0 0 := by
  intro r
  induction r with
  | zero =>
    intro u M G o3 hu hA hM hQ hF
    have hu : u = 4 := by omega
    subst hu
    refine x_iloadn (pc := 37) dX4_beginClasses_37 rfl ?_
    refine x_iconst (pc := 38) dX4_beginClasses_38 ?_
    refine x_cge (tgt := 90) (pc := 39) dX4_beginClasses_39 (by decide) (by omega) (fun c_39 => ?_) (fun c_39 => ?_)
    rotate_left
    · skip
      exact absurd c_39 (by decide)
    refine x_rV (pc := 90) dX4_beginClasses_90 rfl ?_
    exact ⟨⟨M, hA, hM⟩, hQ, hF⟩
  | succ r ih =>
    intro u M G o3 hu hA hM hQ hF
    refine x_iloadn (pc := 37) dX4_beginClasses_37 rfl ?_
    refine x_iconst (pc := 38) dX4_beginClasses_38 ?_
    refine x_cge (tgt := 90) (pc := 39) dX4_beginClasses_39 (by decide) (by omega) (fun c_39 => ?_) (fun c_39 => ?_)
    · skip
      exact absurd c_39 (by omega)
    refine x_iloadn (pc := 42) dX4_beginClasses_42 rfl ?_
    refine x_aloadn (pc := 43) dX4_beginClasses_43 rfl ?_
    refine x_alen (pc := 44) dX4_beginClasses_44 k_49 (by decide) (hL 49 (by decide) (by decide)) ?_
    refine x_cge (tgt := 90) (pc := 45) dX4_beginClasses_45 (by decide) (by omega) (fun c_45 => ?_) (fun c_45 => ?_)
    · skip
      exact absurd c_45 (by omega)
    refine x_iconst (pc := 48) dX4_beginClasses_48 ?_
    refine x_istoren (pc := 49) dX4_beginClasses_49 rfl (by decide) rfl ?_
    refine l_fi_bcK hL hz hb (show u < 4 by omega) (fun G1 M o3 b1 b2 b3 b4 => ?_) (z u) 0 M G (by omega) hA hM hQ hF
    refine x_iinc (pc := 84) dX4_beginClasses_84 rfl (by decide) rfl ?_
    refine x_goto (tgt := 37) (pc := 87) dX4_beginClasses_87 (by decide) ?_
    exact ih (u + 1) M G1 _ (by omega) b1 b2 b3 b4
theorem l_fi_bcL {G0 : Nat → Nat → Int} (hL : x_SL L) (hz : cFL z G0) (hb : cBd lo hi mk G0) :
    ∀ (r l : Nat) (M : Nat → Nat) (G : Nat → Nat → Int), l + r = 3 → cAl 56 (3 + zbg z 4) (fun i => i) M G → (∀ i, i < l → M i = zba z mk i) → FR zbcS G0 G → x_Fin xFL G →
    X mX4_beginClasses 2 0 0 (pBc L G0 z mk) 13 [some (vR 55), some (vR 49), some (vI l), none] [] L G 0 0 := by
  intro r
  induction r with
  | zero =>
    intro l M G hl hA hM hQ hF
    have hl : l = 3 := by omega
    subst hl
    refine x_iloadn (pc := 13) dX4_beginClasses_13 rfl ?_
    refine x_iconst (pc := 14) dX4_beginClasses_14 ?_
    refine x_cge (tgt := 35) (pc := 15) dX4_beginClasses_15 (by decide) (by omega) (fun c_15 => ?_) (fun c_15 => ?_)
    rotate_left
    · skip
      exact absurd c_15 (by decide)
    refine x_iconst (pc := 35) dX4_beginClasses_35 ?_
    refine x_istoren (pc := 36) dX4_beginClasses_36 rfl (by decide) rfl ?_
    exact l_fi_bcU hL hz hb 4 0 M G none (by omega) hA (fun i hi => hM i (by have : zbg z 0 = 0 := rfl; omega)) hQ hF
  | succ r ih =>
    intro l M G hl hA hM hQ hF
    have hsh : (1 : Int) * 2 ^ l = ((2 ^ l : Nat) : Int) := by simp
    have h8 : 2 ^ l < 8 := by
      rcases (show l = 0 ∨ l = 1 ∨ l = 2 by omega) with rfl | rfl | rfl <;> decide
    refine x_iloadn (pc := 13) dX4_beginClasses_13 rfl ?_
    refine x_iconst (pc := 14) dX4_beginClasses_14 ?_
    refine x_cge (tgt := 35) (pc := 15) dX4_beginClasses_15 (by decide) (by omega) (fun c_15 => ?_) (fun c_15 => ?_)
    · skip
      exact absurd c_15 (by omega)
    refine x_aloadn (pc := 18) dX4_beginClasses_18 rfl ?_
    refine x_getR (56) (pc := 19) dX4_beginClasses_19 fl_X4_12 k_55 (hL 55 (by decide) (by decide)) (f_55_0 hF) ?_
    refine x_iloadn (pc := 22) dX4_beginClasses_22 rfl ?_
    refine x_iconst (pc := 23) dX4_beginClasses_23 ?_
    refine x_iloadn (pc := 24) dX4_beginClasses_24 rfl ?_
    refine x_ishl (pc := 25) dX4_beginClasses_25 l rfl (by omega) ?_
    rw [hsh]
    refine x_cVV (pc := 26) dX4_beginClasses_26 lk_X4_80 (c_Al_allow (Or.inl rfl) hL hF hA (a := l) (m := 2 ^ l) (by omega) h8) k_56 ⟨by decide, rfl⟩ (hL 56 (by decide) (by decide)) (⟨by decide, by decide⟩) (Nat.le_of_ble_eq_true rfl) rfl ?_
    rintro G1 ⟨a1, a2, hF⟩
    refine x_iinc (pc := 29) dX4_beginClasses_29 rfl (by decide) rfl ?_
    refine x_goto (tgt := 13) (pc := 32) dX4_beginClasses_32 (by decide) ?_
    refine ih (l + 1) _ G1 (by omega) a1 (fun i hi => ?_) (hQ.tr (a2.mono (by decide))) hF
    by_cases e : i = l
    · subst e; rw [zup_s, zba_3 (by omega)]
    · rw [zup_n e]; exact hM i (by omega)
theorem c_fi_begin {G : Nat → Nat → Int} (hL : x_SL L) (hF : x_Fin xFL G) (hz : cFL z G) (hb : cBd lo hi mk G) :
    CM yX4_beginClasses mX4_beginClasses 2 0 0 [vR 55, vR 49] L G (pBc L G z mk) := by
  have hN := zbg_4 (fun u hu => (hz.2 u hu).2.2) 4 (Nat.le_refl _)
  refine Ct.of_X (μ := mX4_beginClasses) rfl rfl (by decide) (fun h => by cases h) (Nat.le_of_ble_eq_true rfl) rfl ?_
  refine x_aloadn (pc := 0) dX4_beginClasses_0 rfl ?_
  refine x_getR (56) (pc := 1) dX4_beginClasses_1 fl_X4_12 k_55 (hL 55 (by decide) (by decide)) (f_55_0 hF) ?_
  refine x_aloadn (pc := 4) dX4_beginClasses_4 rfl ?_
  refine x_getI (pc := 5) dX4_beginClasses_5 fl_X4_34 k_55 (hL 55 (by decide) (by decide)) ?_
  rw [hz.1]
  refine x_cVV (pc := 8) dX4_beginClasses_8 lk_X4_76 (c_Al_begin (n := 3 + zbg z 4) (Or.inl rfl) hL hF (by omega)) k_56 ⟨by decide, rfl⟩ (hL 56 (by decide) (by decide)) (⟨by decide, by decide⟩) (Nat.le_of_ble_eq_true rfl) rfl ?_
  rintro G1 ⟨a1, a2, hF⟩
  refine x_iconst (pc := 11) dX4_beginClasses_11 ?_
  refine x_istoren (pc := 12) dX4_beginClasses_12 rfl (by decide) rfl ?_
  exact l_fi_bcL hL hz hb 3 0 _ G1 (by omega) a1 (fun i hi => absurd hi (Nat.not_lt_zero i)) (a2.mono (by decide)) hF
/-! solves -/
abbrev zslS : List Nat := [56, 57, 58, 62, 63]
def cSv (m : Nat) (S : Nat → Nat) (I : Nat → Nat → Nat) (z mk : Nat → Nat) (G : Nat → Nat → Int) : Prop := ∃ f M, cAl 56 (3 + zbg z 4) f M G ∧ zAJ (3 + zbg z 4) (zE m S I z) (zba z mk) f M
abbrev pSv (L : List Nat) (G0 : Nat → Nat → Int) (m : Nat) (S : Nat → Nat) (I : Nat → Nat → Nat) (z mk : Nat → Nat) : x_Q := qI L fun x G' => ((x = 1 ∧ zLn m S I z ∧ ¬ zDd (zE m S I z) (zba z mk) ∧ cSv m S I z mk G') ∨ (x = 0 ∧ ¬ (zLn m S I z ∧ ¬ zDd (zE m S I z) (zba z mk)))) ∧ FR zslS G0 G' ∧ x_Fin xFL G'
theorem zAJ.nd {nn : Nat} {E : Nat → Nat → Prop} {base f M : Nat → Nat} (h : zAJ nn E base f M) : ¬ zDd E base := fun ⟨i, j, h1, h2, h3⟩ => by
  have e := (h.1.iff i j).mp h2
  by_cases c : f i = i
  · have : f j ≠ j := by omega
    have := h.2.2 j this
    rw [← zan_eqv h2] at this
    exact this h3
  · exact h.2.2 i c h3
theorem cEq.EV {G : Nat → Nat → Int} (h : cEq m S I G) : zEV m S I := fun q hq => ⟨(h.2.2 q hq).2.1, fun j hj => ((h.2.2 q hq).2.2.1 j hj).2⟩
theorem l_fi_in {e : Nat} {G0 : Nat → Nat → Int} (hL : x_SL L) (hE : cEq m S I G0) (hz : cFL z G0) (hl : zLn m S I z) (he : e < m)
    (cont : ∀ (G : Nat → Nat → Int) (f M : Nat → Nat) (o4 o5 : Option (Nat × Int)), cAl 56 (3 + zbg z 4) f M G → zAJ (3 + zbg z 4) (zEp S I z (e + 1) 0) (zba z mk) f M → FR zslS G0 G → x_Fin xFL G → X mX4_solves 4 0 0 (pSv L G0 m S I z mk) 148 [some (vR 55), some (vR 4), some (vR 49), some (vI e), o4, o5] [] L G 0 0) :
    ∀ (k t : Nat) (f M : Nat → Nat) (G : Nat → Nat → Int), t + k = yof I (2 * e) z (S (2 * e)) → cAl 56 (3 + zbg z 4) f M G → zAJ (3 + zbg z 4) (zEp S I z e t) (zba z mk) f M → (∀ j, j < yof I (2 * e) z (S (2 * e)) → G 62 j = zrw I (2 * e) z (S (2 * e)) j ∧ G 63 j = zrw I (2 * e + 1) z (S (2 * e + 1)) j) → FR zslS G0 G → x_Fin xFL G →
    X mX4_solves 4 0 0 (pSv L G0 m S I z mk) 92 [some (vR 55), some (vR 4), some (vR 49), some (vI e), some (vI (yof I (2 * e) z (S (2 * e)))), some (vI t)] [] L G 0 0 := by
  have hV := hE.EV
  have h8 : ∀ u, u < 4 → z u ≤ 8 := fun u hu => (hz.2 u hu).2.2
  have h96 := zof_96 (I := I) (q := 2 * e) h8 (hV (2 * e) (by omega)).2 (S (2 * e)) (Nat.le_refl _)
  have hS12 := (hV (2 * e) (by omega)).1
  have hN := zbg_4 h8 4 (Nat.le_refl _)
  intro k
  induction k with
  | zero =>
    intro t f M G ht hA hJ hrow hQ hF
    have ht : t = yof I (2 * e) z (S (2 * e)) := by omega
    subst ht
    refine x_iload (pc := 92) dX4_solves_92 rfl ?_
    refine x_iload (pc := 94) dX4_solves_94 rfl ?_
    refine x_cge (tgt := 148) (pc := 96) dX4_solves_96 (by decide) (by omega) (fun c_96 => ?_) (fun c_96 => ?_)
    rotate_left
    · skip
      exact absurd c_96 (by omega)
    exact cont G f M _ _ hA (hJ.cg (fun i j h => .base (zEp_e.mp h)) (fun i j h => .base (zEp_e.mpr h))) hQ hF
  | succ k ih =>
    intro t f M G ht hA hJ hrow hQ hF
    obtain ⟨r1, r2⟩ := hrow t (by omega)
    have la := zrw_lt (z := z) (S (2 * e)) (hV (2 * e) (by omega)).2 t (by omega)
    have lb := zrw_lt (z := z) (S (2 * e + 1)) (hV (2 * e + 1) (by omega)).2 t (by rw [← hl e he]; omega)
    obtain ⟨a, ha⟩ : ∃ a, a = zrw I (2 * e) z (S (2 * e)) t := ⟨_, rfl⟩
    obtain ⟨b, hb⟩ : ∃ a, a = zrw I (2 * e + 1) z (S (2 * e + 1)) t := ⟨_, rfl⟩
    rw [← ha] at r1 la
    rw [← hb] at r2 lb
    have hst : ∀ i j, (zEp S I z e t i j ∨ (i = a ∧ j = b)) ↔ zEp S I z e (t + 1) i j := fun i j => by rw [zEp_s, ha, hb]
    refine x_iload (pc := 92) dX4_solves_92 rfl ?_
    refine x_iload (pc := 94) dX4_solves_94 rfl ?_
    refine x_cge (tgt := 148) (pc := 96) dX4_solves_96 (by decide) (by omega) (fun c_96 => ?_) (fun c_96 => ?_)
    · skip
      exact absurd c_96 (by omega)
    refine x_aloadn (pc := 99) dX4_solves_99 rfl ?_
    refine x_getR (62) (pc := 100) dX4_solves_100 fl_X4_28 k_55 (hL 55 (by decide) (by decide)) (f_55_4 hF) ?_
    refine x_iload (pc := 103) dX4_solves_103 rfl ?_
    refine x_iald (t) (pc := 105) dX4_solves_105 k_62 (hL 62 (by decide) (by decide)) (⟨by omega, by omega, by decide⟩) ?_
    rw [r1]
    refine x_aloadn (pc := 106) dX4_solves_106 rfl ?_
    refine x_getR (63) (pc := 107) dX4_solves_107 fl_X4_31 k_55 (hL 55 (by decide) (by decide)) (f_55_5 hF) ?_
    refine x_iload (pc := 110) dX4_solves_110 rfl ?_
    refine x_iald (t) (pc := 112) dX4_solves_112 k_63 (hL 63 (by decide) (by decide)) (⟨by omega, by omega, by decide⟩) ?_
    rw [r2]
    refine x_ceq (tgt := 142) (pc := 113) dX4_solves_113 (by decide) (by omega) (fun c_113 => ?_) (fun c_113 => ?_)
    · skip
      refine x_iinc (pc := 142) dX4_solves_142 rfl (by decide) rfl ?_
      refine x_goto (tgt := 92) (pc := 145) dX4_solves_145 (by decide) ?_
      first
      | (refine ih (t + 1) _ _ G1 (by omega) b1 ?_ (fun j hj => by rw [b2 _ (by decide), b2 _ (by decide)]; exact hrow j hj) (hQ.tr hq1) hF
         have hj := hJ.join la lb (by
           apply Classical.byContradiction
           intro q
           rw [if_neg q] at hx
           exact c_137 hx)
         exact hj.cg (fun i j h => .base ((hst i j).mp h)) (fun i j h => .base ((hst i j).mpr h)))
      | (refine ih (t + 1) f M G (by omega) hA ?_ hrow hQ hF
         refine hJ.cg (fun i j h => .base ((hst i j).mp (Or.inl h))) (fun i j h => ?_)
         rcases (hst i j).mpr h with h | ⟨rfl, rfl⟩
         · exact .base h
         · have e : i = j := by omega
           rw [e]; exact .refl j)
    · skip
      refine x_aloadn (pc := 116) dX4_solves_116 rfl ?_
      refine x_getR (56) (pc := 117) dX4_solves_117 fl_X4_12 k_55 (hL 55 (by decide) (by decide)) (f_55_0 hF) ?_
      refine x_aloadn (pc := 120) dX4_solves_120 rfl ?_
      refine x_getR (62) (pc := 121) dX4_solves_121 fl_X4_28 k_55 (hL 55 (by decide) (by decide)) (f_55_4 hF) ?_
      refine x_iload (pc := 124) dX4_solves_124 rfl ?_
      refine x_iald (t) (pc := 126) dX4_solves_126 k_62 (hL 62 (by decide) (by decide)) (⟨by omega, by omega, by decide⟩) ?_
      rw [r1]
      refine x_aloadn (pc := 127) dX4_solves_127 rfl ?_
      refine x_getR (63) (pc := 128) dX4_solves_128 fl_X4_31 k_55 (hL 55 (by decide) (by decide)) (f_55_5 hF) ?_
      refine x_iload (pc := 131) dX4_solves_131 rfl ?_
      refine x_iald (t) (pc := 133) dX4_solves_133 k_63 (hL 63 (by decide) (by decide)) (⟨by omega, by omega, by decide⟩) ?_
      rw [r2]
      refine x_cVI (pc := 134) dX4_solves_134 lk_X4_66 (c_Al_join (a := a) (b := b) (Or.inl rfl) hL hF hA la lb (fun i _ => hJ.1.idem i)) k_56 ⟨by decide, rfl⟩ (hL 56 (by decide) (by decide)) (⟨by decide, by decide⟩) (Nat.le_of_ble_eq_true rfl) rfl ?_
      rintro x G1 ⟨hx, b1, b2, hF⟩
      have hq1 : FR zslS G G1 := b2.mono (by decide)
      refine x_ine (tgt := 142) (pc := 137) dX4_solves_137 (by decide) (by split at hx <;> omega) (fun c_137 => ?_) (fun c_137 => ?_)
      · skip
        refine x_iinc (pc := 142) dX4_solves_142 rfl (by decide) rfl ?_
        refine x_goto (tgt := 92) (pc := 145) dX4_solves_145 (by decide) ?_
        first
        | (refine ih (t + 1) _ _ G1 (by omega) b1 ?_ (fun j hj => by rw [b2 _ (by decide), b2 _ (by decide)]; exact hrow j hj) (hQ.tr hq1) hF
           have hj := hJ.join la lb (by
             apply Classical.byContradiction
             intro q
             rw [if_neg q] at hx
             exact c_137 hx)
           exact hj.cg (fun i j h => .base ((hst i j).mp h)) (fun i j h => .base ((hst i j).mpr h)))
        | (refine ih (t + 1) f M G (by omega) hA ?_ hrow hQ hF
           refine hJ.cg (fun i j h => .base ((hst i j).mp (Or.inl h))) (fun i j h => ?_)
           rcases (hst i j).mpr h with h | ⟨rfl, rfl⟩
           · exact .base h
           · have e : i = j := by omega
             rw [e]; exact .refl j)
      · skip
        refine x_iconst (pc := 140) dX4_solves_140 ?_
        refine x_rZ (pc := 141) dX4_solves_141 rfl (by omega) ?_
        refine ⟨Or.inr ⟨rfl, fun w => ?_⟩, hQ.tr hq1, hF⟩
        have hd := hJ.dead la lb (fun q => by rw [if_pos q] at hx; omega)
        exact w.2 (hd.mono (fun i j h => .base (zEp_E he (t := t + 1) (by omega) ((hst i j).mp h))))
theorem cBd.FR {T : List Nat} {G G' : Nat → Nat → Int} (h : cBd lo hi mk G) (hR : FR T G G') (h1 : 47 ∉ T) (h2 : 48 ∉ T) (h3 : 49 ∉ T) : cBd lo hi mk G' := fun u hu => by
  rw [hR _ h1, hR _ h2, hR _ h3]; exact h u hu
theorem l_fi_48 {G0 : Nat → Nat → Int} (hL : x_SL L) (hE : cEq m S I G0) (hz : cFL z G0) (hl : zLn m S I z) :
    ∀ (k e : Nat) (f M : Nat → Nat) (G : Nat → Nat → Int) (o4 o5 : Option (Nat × Int)), e + k = m → cAl 56 (3 + zbg z 4) f M G → zAJ (3 + zbg z 4) (zEp S I z e 0) (zba z mk) f M → FR zslS G0 G → x_Fin xFL G →
    X mX4_solves 4 0 0 (pSv L G0 m S I z mk) 48 [some (vR 55), some (vR 4), some (vR 49), some (vI e), o4, o5] [] L G 0 0 := by
  have hV := hE.EV
  have hm4 := hE.2.1
  have h8 : ∀ u, u < 4 → z u ≤ 8 := fun u hu => (hz.2 u hu).2.2
  intro k
  induction k with
  | zero =>
    intro e f M G o4 o5 he hA hJ hQ hF
    have he : e = m := by omega
    subst he
    have hE' := hE.FR hQ (by decide)
    have hJ' := hJ.cg (F := zE e S I z) (fun i j h => .base (zEp_m.mp h)) (fun i j h => .base (zEp_m.mpr h))
    refine x_iloadn (pc := 48) dX4_solves_48 rfl ?_
    refine x_aloadn (pc := 49) dX4_solves_49 rfl ?_
    refine x_cVI (pc := 50) dX4_solves_50 lk_X4_44 (c_Eq_length hL hE') k_4 ⟨by decide, rfl⟩ (hL 4 (by decide) (by decide)) (⟨by decide, by decide⟩) (Nat.le_of_ble_eq_true rfl) rfl ?_
    rintro x G' ⟨rfl, rfl⟩
    refine x_cge (tgt := 154) (pc := 53) dX4_solves_53 (by decide) (by omega) (fun c_53 => ?_) (fun c_53 => ?_)
    rotate_left
    · skip
      exact absurd c_53 (by omega)
    refine x_iconst (pc := 154) dX4_solves_154 ?_
    refine x_rZ (pc := 155) dX4_solves_155 rfl (by omega) ?_
    exact ⟨Or.inl ⟨rfl, hl, hJ'.nd, f, M, hA, hJ'⟩, hQ, hF⟩
  | succ k ih =>
    intro e f M G o4 o5 he hA hJ hQ hF
    have hE' := hE.FR hQ (by decide)
    have hz' : cFL z G := hz.FR hQ (by decide) (by decide) (by decide)
    have h96 := zof_96 (I := I) (q := 2 * e) h8 (hV (2 * e) (by omega)).2 (S (2 * e)) (Nat.le_refl _)
    have hS12 := (hV (2 * e) (by omega)).1
    have hle := hl e (by omega)
    refine x_iloadn (pc := 48) dX4_solves_48 rfl ?_
    refine x_aloadn (pc := 49) dX4_solves_49 rfl ?_
    refine x_cVI (pc := 50) dX4_solves_50 lk_X4_44 (c_Eq_length hL hE') k_4 ⟨by decide, rfl⟩ (hL 4 (by decide) (by decide)) (⟨by decide, by decide⟩) (Nat.le_of_ble_eq_true rfl) rfl ?_
    rintro x G' ⟨rfl, rfl⟩
    refine x_cge (tgt := 154) (pc := 53) dX4_solves_53 (by decide) (by omega) (fun c_53 => ?_) (fun c_53 => ?_)
    · skip
      exact absurd c_53 (by omega)
    refine x_aloadn (pc := 56) dX4_solves_56 rfl ?_
    refine x_aloadn (pc := 57) dX4_solves_57 rfl ?_
    refine x_iloadn (pc := 58) dX4_solves_58 rfl ?_
    refine x_iconst (pc := 59) dX4_solves_59 ?_
    refine x_cVR (pc := 60) dX4_solves_60 lk_X4_50 (c_Eq_side (k := 2 * e) hL hF (by omega) (by omega) (by omega) (by omega)) k_4 ⟨by decide, rfl⟩ (hL 4 (by decide) (by decide)) (⟨by decide, by decide⟩) (Nat.le_of_ble_eq_true rfl) rfl ?_
    rintro q G' ⟨rfl, hG⟩
    subst hG
    refine x_aloadn (pc := 63) dX4_solves_63 rfl ?_
    refine x_getR (62) (pc := 64) dX4_solves_64 fl_X4_28 k_55 (hL 55 (by decide) (by decide)) (f_55_4 hF) ?_
    refine x_cVI (pc := 67) dX4_solves_67 lk_X4_62 (c_fi_spread (t := 62) (eq_sd (k := 2 * e) (by omega)) hL hF (hE'.2.2 (2 * e) (by omega)) hz' k_62 (hL _ (by decide) (by decide)) ⟨by decide, by decide⟩) k_55 ⟨by decide, rfl⟩ (hL 55 (by decide) (by decide)) (⟨by decide, by decide⟩) (Nat.le_of_ble_eq_true rfl) rfl ?_
    rintro x1 G1 ⟨rfl, a1, a2, hF⟩
    have hq1 : FR zslS _ G1 := hQ.tr (a2.mono (by decide))
    have hE1 := hE.FR hq1 (by decide)
    have hz1 : cFL z G1 := hz.FR hq1 (by decide) (by decide) (by decide)
    refine x_aloadn (pc := 70) dX4_solves_70 rfl ?_
    refine x_aloadn (pc := 71) dX4_solves_71 rfl ?_
    refine x_iloadn (pc := 72) dX4_solves_72 rfl ?_
    refine x_iconst (pc := 73) dX4_solves_73 ?_
    refine x_cVR (pc := 74) dX4_solves_74 lk_X4_50 (c_Eq_side (k := 2 * e + 1) hL hF (by omega) (by omega) (by omega) (by omega)) k_4 ⟨by decide, rfl⟩ (hL 4 (by decide) (by decide)) (⟨by decide, by decide⟩) (Nat.le_of_ble_eq_true rfl) rfl ?_
    rintro q G' ⟨rfl, hG⟩
    subst hG
    refine x_aloadn (pc := 77) dX4_solves_77 rfl ?_
    refine x_getR (63) (pc := 78) dX4_solves_78 fl_X4_31 k_55 (hL 55 (by decide) (by decide)) (f_55_5 hF) ?_
    refine x_cVI (pc := 81) dX4_solves_81 lk_X4_62 (c_fi_spread (t := 63) (eq_sd (k := 2 * e + 1) (by omega)) hL hF (hE1.2.2 (2 * e + 1) (by omega)) hz1 k_63 (hL _ (by decide) (by decide)) ⟨by decide, by decide⟩) k_55 ⟨by decide, rfl⟩ (hL 55 (by decide) (by decide)) (⟨by decide, by decide⟩) (Nat.le_of_ble_eq_true rfl) rfl ?_
    rintro x2 G2 ⟨rfl, d1, d2, hF⟩
    have hq2 : FR zslS _ G2 := hq1.tr (d2.mono (by decide))
    refine x_mmin (pc := 84) dX4_solves_84 lk_X4_38 (by omega) (Nat.le_of_ble_eq_true rfl) (by omega) ?_
    rw [show min ((yof I (2 * e) z (S (2 * e)) : Nat) : Int) ((yof I (2 * e + 1) z (S (2 * e + 1)) : Nat) : Int) = ((yof I (2 * e) z (S (2 * e)) : Nat) : Int) by omega]
    refine x_istore (pc := 87) dX4_solves_87 (by decide) rfl ?_
    refine x_iconst (pc := 89) dX4_solves_89 ?_
    refine x_istore (pc := 90) dX4_solves_90 (by decide) rfl ?_
    refine l_fi_in hL hE hz hl (show e < m by omega) (fun G3 f3 M3 o4 o5 b1 b2 b3 b4 => ?_) (yof I (2 * e) z (S (2 * e))) 0 f M G2 (by omega) ((hA.cg a2 (by decide) (by decide) (by decide)).cg d2 (by decide) (by decide) (by decide)) hJ (fun j hj => ⟨by rw [d2 _ (by decide)]; exact a1 j hj, d1 j (by omega)⟩) hq2 hF
    refine x_iinc (pc := 148) dX4_solves_148 rfl (by decide) rfl ?_
    refine x_goto (tgt := 48) (pc := 151) dX4_solves_151 (by decide) ?_
    exact ih (e + 1) f3 M3 G3 _ _ (by omega) b1 b2 b3 b4
theorem l_fi_2 {G : Nat → Nat → Int} (hL : x_SL L) (hF : x_Fin xFL G) (hE : cEq m S I G) (hz : cFL z G) (hb : cBd lo hi mk G) :
    ∀ (k e : Nat), e + k = m → (∀ e', e' < e → yof I (2 * e') z (S (2 * e')) = yof I (2 * e' + 1) z (S (2 * e' + 1))) →
    X mX4_solves 4 0 0 (pSv L G m S I z mk) 2 [some (vR 55), some (vR 4), some (vR 49), some (vI e), none, none] [] L G 0 0 := by
  have hm4 := hE.2.1
  have hV := hE.EV
  have h8 : ∀ u, u < 4 → z u ≤ 8 := fun u hu => (hz.2 u hu).2.2
  intro k
  induction k with
  | zero =>
    intro e he hl
    have he : e = m := by omega
    subst he
    refine x_iloadn (pc := 2) dX4_solves_2 rfl ?_
    refine x_aloadn (pc := 3) dX4_solves_3 rfl ?_
    refine x_cVI (pc := 4) dX4_solves_4 lk_X4_44 (c_Eq_length hL hE) k_4 ⟨by decide, rfl⟩ (hL 4 (by decide) (by decide)) (⟨by decide, by decide⟩) (Nat.le_of_ble_eq_true rfl) rfl ?_
    rintro x G' ⟨rfl, rfl⟩
    refine x_cge (tgt := 41) (pc := 7) dX4_solves_7 (by decide) (by omega) (fun c_7 => ?_) (fun c_7 => ?_)
    rotate_left
    · skip
      exact absurd c_7 (by omega)
    refine x_aloadn (pc := 41) dX4_solves_41 rfl ?_
    refine x_aloadn (pc := 42) dX4_solves_42 rfl ?_
    refine x_cVV (pc := 43) dX4_solves_43 lk_X4_58 (c_fi_begin hL hF hz hb) k_55 ⟨by decide, rfl⟩ (hL 55 (by decide) (by decide)) (⟨by decide, by decide⟩) (Nat.le_of_ble_eq_true rfl) rfl ?_
    rintro G1 ⟨⟨M, a1, a2⟩, a3, hF⟩
    refine x_iconst (pc := 46) dX4_solves_46 ?_
    refine x_istoren (pc := 47) dX4_solves_47 rfl (by decide) rfl ?_
    refine l_fi_48 hL hE hz hl e 0 (fun i => i) M G1 _ _ (by omega) a1 ?_ (a3.mono (by decide)) hF
    have hi := zAJ.init (nn := 3 + zbg z 4) (base := zba z mk) (fun i hi => zba_lt (fun u hu => (hb u hu).2.2.2.2.2) hi)
    have hi2 := hi.cg (F := zEp S I z 0 0) (fun i j h => h.elim) (fun i j h => absurd h zEp_0)
    exact ⟨hi2.1, fun i hi e => by rw [a2 i hi]; exact hi2.2.1 i hi e, hi2.2.2⟩
  | succ k ih =>
    intro e he hl
    have h1 := zof_96 (I := I) (q := 2 * e) h8 (hV (2 * e) (by omega)).2 (S (2 * e)) (Nat.le_refl _)
    have h2 := zof_96 (I := I) (q := 2 * e + 1) h8 (hV (2 * e + 1) (by omega)).2 (S (2 * e + 1)) (Nat.le_refl _)
    have hs1 := (hV (2 * e) (by omega)).1
    have hs2 := (hV (2 * e + 1) (by omega)).1
    refine x_iloadn (pc := 2) dX4_solves_2 rfl ?_
    refine x_aloadn (pc := 3) dX4_solves_3 rfl ?_
    refine x_cVI (pc := 4) dX4_solves_4 lk_X4_44 (c_Eq_length hL hE) k_4 ⟨by decide, rfl⟩ (hL 4 (by decide) (by decide)) (⟨by decide, by decide⟩) (Nat.le_of_ble_eq_true rfl) rfl ?_
    rintro x G' ⟨rfl, rfl⟩
    refine x_cge (tgt := 41) (pc := 7) dX4_solves_7 (by decide) (by omega) (fun c_7 => ?_) (fun c_7 => ?_)
    · skip
      exact absurd c_7 (by omega)
    refine x_aloadn (pc := 10) dX4_solves_10 rfl ?_
    refine x_aloadn (pc := 11) dX4_solves_11 rfl ?_
    refine x_iloadn (pc := 12) dX4_solves_12 rfl ?_
    refine x_iconst (pc := 13) dX4_solves_13 ?_
    refine x_cVR (pc := 14) dX4_solves_14 lk_X4_50 (c_Eq_side (k := 2 * e) hL hF (by omega) (by omega) (by omega) (by omega)) k_4 ⟨by decide, rfl⟩ (hL 4 (by decide) (by decide)) (⟨by decide, by decide⟩) (Nat.le_of_ble_eq_true rfl) rfl ?_
    rintro q G' ⟨rfl, hG⟩
    subst hG
    refine x_cVI (pc := 17) dX4_solves_17 lk_X4_54 (c_fi_lengthOf (eq_sd (k := 2 * e) (by omega)) hL hF (hE.2.2 (2 * e) (by omega)) hz) k_55 ⟨by decide, rfl⟩ (hL 55 (by decide) (by decide)) (⟨by decide, by decide⟩) (Nat.le_of_ble_eq_true rfl) rfl ?_
    rintro x G' ⟨rfl, rfl⟩
    refine x_aloadn (pc := 20) dX4_solves_20 rfl ?_
    refine x_aloadn (pc := 21) dX4_solves_21 rfl ?_
    refine x_iloadn (pc := 22) dX4_solves_22 rfl ?_
    refine x_iconst (pc := 23) dX4_solves_23 ?_
    refine x_cVR (pc := 24) dX4_solves_24 lk_X4_50 (c_Eq_side (k := 2 * e + 1) hL hF (by omega) (by omega) (by omega) (by omega)) k_4 ⟨by decide, rfl⟩ (hL 4 (by decide) (by decide)) (⟨by decide, by decide⟩) (Nat.le_of_ble_eq_true rfl) rfl ?_
    rintro q G' ⟨rfl, hG⟩
    subst hG
    refine x_cVI (pc := 27) dX4_solves_27 lk_X4_54 (c_fi_lengthOf (eq_sd (k := 2 * e + 1) (by omega)) hL hF (hE.2.2 (2 * e + 1) (by omega)) hz) k_55 ⟨by decide, rfl⟩ (hL 55 (by decide) (by decide)) (⟨by decide, by decide⟩) (Nat.le_of_ble_eq_true rfl) rfl ?_
    rintro x G' ⟨rfl, rfl⟩
    refine x_ceq (tgt := 35) (pc := 30) dX4_solves_30 (by decide) (by omega) (fun c_30 => ?_) (fun c_30 => ?_)
    · skip
      refine x_iinc (pc := 35) dX4_solves_35 rfl (by decide) rfl ?_
      refine x_goto (tgt := 2) (pc := 38) dX4_solves_38 (by decide) ?_
      refine ih (e + 1) (by omega) (fun e' he' => ?_)
      by_cases q : e' = e
      · subst q; omega
      · exact hl e' (by omega)
    · skip
      refine x_iconst (pc := 33) dX4_solves_33 ?_
      refine x_rZ (pc := 34) dX4_solves_34 rfl (by omega) ?_
      exact ⟨Or.inr ⟨rfl, fun w => c_30 (by have := w.1 e (by omega); omega)⟩, FR.rf, hF⟩
theorem c_fi_solves {G : Nat → Nat → Int} (hL : x_SL L) (hF : x_Fin xFL G) (hE : cEq m S I G) (hz : cFL z G) (hb : cBd lo hi mk G) :
    CM yX4_solves mX4_solves 4 0 0 [vR 55, vR 4, vR 49] L G (pSv L G m S I z mk) := by
  refine Ct.of_X (μ := mX4_solves) rfl rfl (by decide) (fun h => by cases h) (Nat.le_of_ble_eq_true rfl) rfl ?_
  refine x_iconst (pc := 0) dX4_solves_0 ?_
  refine x_istoren (pc := 1) dX4_solves_1 rfl (by decide) rfl ?_
  exact l_fi_2 hL hF hE hz hb m 0 (by omega) (fun e' he' => absurd he' (Nat.not_lt_zero e'))
end XFS

