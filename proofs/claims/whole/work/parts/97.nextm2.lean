/-! the reference: the next lengths that are ones -/
theorem zcd_ex (c : Nat) : c = 729 * (c / 729) + 81 * (c / 81 % 9) + 9 * (c / 9 % 9) + c % 9 := by
  have d1 : c / 9 / 9 = c / 81 := Nat.div_div_eq_div_mul c 9 9
  have d2 : c / 81 / 9 = c / 729 := Nat.div_div_eq_div_mul c 81 9
  obtain ⟨p, hp⟩ : ∃ p, p = c / 9 := ⟨_, rfl⟩
  obtain ⟨q, hq⟩ : ∃ q, q = c / 81 := ⟨_, rfl⟩
  obtain ⟨r, hr⟩ : ∃ r, r = c / 729 := ⟨_, rfl⟩
  rw [← hp, ← hq] at d1
  rw [← hq, ← hr] at d2
  rw [← hp, ← hq, ← hr]
  omega
theorem mCo_mk {t w x y : Nat} {G : Nat → Nat → Int} (hw : w ≤ 8) (hx : x ≤ 8) (hy : y ≤ 8) (h : mQz w x y t G) (h3 : G 144 3 = ((t : Nat) : Int) - ((w + x + y : Nat) : Int)) : mCo (729 * t + 81 * w + 9 * x + y) G := by
  obtain ⟨k0, k1, k2, _, k4, k5⟩ := zcz_mk (t := t) hw hx hy
  obtain ⟨c, hc⟩ : ∃ c, c = 729 * t + 81 * w + 9 * x + y := ⟨_, rfl⟩
  rw [← hc] at k0 k1 k2 k4 k5 ⊢
  have k0' : c / 81 % 9 = w := k0
  have k1' : c / 9 % 9 = x := k1
  have k2' : c % 9 = y := k2
  exact ⟨by rw [k0', k1', k2', k5]; exact h, by rw [k4, k5]; exact h3⟩
theorem zcv_mk {t w x y : Nat} (hw : w ≤ 8) (hx : x ≤ 8) (hy : y ≤ 8) : zcv (729 * t + 81 * w + 9 * x + y) ↔ (w + x + y ≤ t ∧ t ≤ w + x + y + 8) := by
  obtain ⟨_, _, _, _, k4, k5⟩ := zcz_mk (t := t) hw hx hy
  unfold zcv
  rw [k4, k5]
section XNY
variable {L : List Nat}
theorem l_mo_nx4 {Q : x_Q} {a b c t : Nat} {o1 : Option (Nat × Int)} {G0 G : Nat → Nat → Int} (hL : x_SL L) (hF : x_Fin xFL G) (h : mQz a b c t G) (hb : a ≤ 8 ∧ b ≤ 8 ∧ c ≤ 8 ∧ t ≤ 33) (hQ : FM znxS [25] G0 G)
    (cont : ∀ (G' : Nat → Nat → Int) (v : Int), mCo (729 * t + 81 * a + 9 * b + c) G' → ((v = 1 ∧ t ≤ 32 ∧ zcv (729 * t + 81 * a + 9 * b + c)) ∨ (v = 0 ∧ ¬ (t ≤ 32 ∧ zcv (729 * t + 81 * a + 9 * b + c)))) → FM znxS [25] G0 G' → x_Fin xFL G' → X mX12_nextLengths 1 0 0 Q 2 [some (vR 127), some (vI v)] [] L G' 0 0) :
    X mX12_nextLengths 1 0 0 Q 109 [some (vR 127), o1] [] L G 0 0 := by
  obtain ⟨h1, h2, h3, h4⟩ := id h
  have hv := zcv_mk (t := t) hb.1 hb.2.1 hb.2.2.1
  have hm : ∀ s : Int, s = ((t : Nat) : Int) - ((a + b + c : Nat) : Int) → mCo (729 * t + 81 * a + 9 * b + c) (x_up G 144 3 s) := fun s hs => mCo_mk hb.1 hb.2.1 hb.2.2.1 ⟨by rw [x_up_k (by decide)]; exact h1, by rw [x_up_k (by decide)]; exact h2, by rw [x_up_k (by decide)]; exact h3, by rw [x_up_ne (by decide)]; exact h4⟩ (by rw [x_up_s]; exact hs)
  have hm2 := hm _ rfl
  rw [show ((t : Nat) : Int) - ((a + b + c : Nat) : Int) = ((t : Nat) : Int) - (a : Nat) - (b : Nat) - (c : Nat) by omega] at hm2
  refine x_aloadn (pc := 109) dX12_nextLengths_109 rfl ?_
  refine x_getR (144) (pc := 110) dX12_nextLengths_110 fl_X12_58 k_127 (hL 127 (by decide) (by decide)) (f_127_20 hF) ?_
  refine x_iconst (pc := 113) dX12_nextLengths_113 ?_
  refine x_aloadn (pc := 114) dX12_nextLengths_114 rfl ?_
  refine x_getI (pc := 115) dX12_nextLengths_115 fl_X12_188 k_127 (hL 127 (by decide) (by decide)) ?_
  rw [h4]
  refine x_aloadn (pc := 118) dX12_nextLengths_118 rfl ?_
  refine x_getR (144) (pc := 119) dX12_nextLengths_119 fl_X12_58 k_127 (hL 127 (by decide) (by decide)) (f_127_20 hF) ?_
  refine x_iconst (pc := 122) dX12_nextLengths_122 ?_
  refine x_iald (0) (pc := 123) dX12_nextLengths_123 k_144 (hL 144 (by decide) (by decide)) (⟨by omega, by omega, by decide⟩) ?_
  rw [h1]
  refine x_isub (pc := 124) dX12_nextLengths_124 ?_
  refine x_aloadn (pc := 125) dX12_nextLengths_125 rfl ?_
  refine x_getR (144) (pc := 126) dX12_nextLengths_126 fl_X12_58 k_127 (hL 127 (by decide) (by decide)) (f_127_20 hF) ?_
  refine x_iconst (pc := 129) dX12_nextLengths_129 ?_
  refine x_iald (1) (pc := 130) dX12_nextLengths_130 k_144 (hL 144 (by decide) (by decide)) (⟨by omega, by omega, by decide⟩) ?_
  rw [h2]
  refine x_isub (pc := 131) dX12_nextLengths_131 ?_
  refine x_aloadn (pc := 132) dX12_nextLengths_132 rfl ?_
  refine x_getR (144) (pc := 133) dX12_nextLengths_133 fl_X12_58 k_127 (hL 127 (by decide) (by decide)) (f_127_20 hF) ?_
  refine x_iconst (pc := 136) dX12_nextLengths_136 ?_
  refine x_iald (2) (pc := 137) dX12_nextLengths_137 k_144 (hL 144 (by decide) (by decide)) (⟨by omega, by omega, by decide⟩) ?_
  rw [h3]
  refine x_isub (pc := 138) dX12_nextLengths_138 ?_
  refine x_iastF (3) (pc := 139) dX12_nextLengths_139 k_144 (hL 144 (by decide) (by decide)) (⟨by omega, by omega, by decide⟩) hF (fun hF => ?_)
  refine x_aloadn (pc := 140) dX12_nextLengths_140 rfl ?_
  refine x_getI (pc := 141) dX12_nextLengths_141 fl_X12_188 k_127 (hL 127 (by decide) (by decide)) ?_
  rw [x_up_ne (by decide), h4]
  refine x_bipush (pc := 144) dX12_nextLengths_144 (by decide) ?_
  refine x_cgt (tgt := 170) (pc := 146) dX12_nextLengths_146 (by decide) (by omega) (fun c_146 => ?_) (fun c_146 => ?_)
  · skip
    refine x_iconst (pc := 170) dX12_nextLengths_170 ?_
    refine x_istoren (pc := 171) dX12_nextLengths_171 rfl (by decide) rfl ?_
    refine x_goto (tgt := 2) (pc := 172) dX12_nextLengths_172 (by decide) ?_
    first
    | exact cont _ _ hm2 (Or.inr ⟨rfl, fun w => by omega⟩) (hQ.upA (by decide)) hF
    | exact cont _ _ hm2 (Or.inl ⟨rfl, by omega, hv.mpr (by split at * <;> omega)⟩) (hQ.upA (by decide)) hF
    | exact cont _ _ hm2 (Or.inr ⟨rfl, fun w => by have := hv.mp w.2; split at * <;> omega⟩) (hQ.upA (by decide)) hF
  · skip
    refine x_aloadn (pc := 149) dX12_nextLengths_149 rfl ?_
    refine x_getR (144) (pc := 150) dX12_nextLengths_150 fl_X12_58 k_127 (hL 127 (by decide) (by decide)) (f_127_20 hF) ?_
    refine x_iconst (pc := 153) dX12_nextLengths_153 ?_
    refine x_iald (3) (pc := 154) dX12_nextLengths_154 k_144 (hL 144 (by decide) (by decide)) (⟨by omega, by omega, by decide⟩) ?_
    rw [x_up_s]
    refine x_i2l (pc := 155) dX12_nextLengths_155 (by omega) ?_
    refine x_lconst (x := 0) (pc := 156) dX12_nextLengths_156 (by decide) ?_
    refine x_ldc2 (pc := 157) dX12_nextLengths_157 co_X12_135 ?_
    refine x_cSI (pc := 160) dX12_nextLengths_160 lk_X12_131 (c_mo_in (by omega)) (⟨by decide, by decide⟩) (Nat.le_of_ble_eq_true rfl) rfl ?_
    rintro x G' ⟨rfl, rfl⟩
    refine x_ieq (tgt := 170) (pc := 163) dX12_nextLengths_163 (by decide) (by omega) (fun c_163 => ?_) (fun c_163 => ?_)
    · skip
      refine x_iconst (pc := 170) dX12_nextLengths_170 ?_
      refine x_istoren (pc := 171) dX12_nextLengths_171 rfl (by decide) rfl ?_
      refine x_goto (tgt := 2) (pc := 172) dX12_nextLengths_172 (by decide) ?_
      first
      | exact cont _ _ hm2 (Or.inr ⟨rfl, fun w => by omega⟩) (hQ.upA (by decide)) hF
      | exact cont _ _ hm2 (Or.inl ⟨rfl, by omega, hv.mpr (by split at * <;> omega)⟩) (hQ.upA (by decide)) hF
      | exact cont _ _ hm2 (Or.inr ⟨rfl, fun w => by have := hv.mp w.2; split at * <;> omega⟩) (hQ.upA (by decide)) hF
    · skip
      refine x_iconst (pc := 166) dX12_nextLengths_166 ?_
      refine x_goto (tgt := 171) (pc := 167) dX12_nextLengths_167 (by decide) ?_
      refine x_istoren (pc := 171) dX12_nextLengths_171 rfl (by decide) rfl ?_
      refine x_goto (tgt := 2) (pc := 172) dX12_nextLengths_172 (by decide) ?_
      first
      | exact cont _ _ hm2 (Or.inr ⟨rfl, fun w => by omega⟩) (hQ.upA (by decide)) hF
      | exact cont _ _ hm2 (Or.inl ⟨rfl, by omega, hv.mpr (by split at * <;> omega)⟩) (hQ.upA (by decide)) hF
      | exact cont _ _ hm2 (Or.inr ⟨rfl, fun w => by have := hv.mp w.2; split at * <;> omega⟩) (hQ.upA (by decide)) hF
abbrev pNx (L : List Nat) (G0 : Nat → Nat → Int) (c0 : Nat) : x_Q := qI L fun x G' => ∃ c', c0 < c' ∧ c' ≤ 24057 ∧ (∀ j, c0 < j → j < c' → ¬ zcv j) ∧ mCo c' G' ∧ ((x = 1 ∧ c' < 24057 ∧ zcv c') ∨ (x = 0 ∧ c' = 24057)) ∧ FM znxS [25] G0 G' ∧ x_Fin xFL G'
theorem l_mo_nx {c0 : Nat} {G0 : Nat → Nat → Int} (hL : x_SL L) (hc0 : c0 < 24057) :
    ∀ (r c : Nat) (G : Nat → Nat → Int), c + r = 24057 → c0 ≤ c → (∀ j, c0 < j → j ≤ c → ¬ (j < 24057 ∧ zcv j)) → mCo c G → FM znxS [25] G0 G → x_Fin xFL G → X mX12_nextLengths 1 0 0 (pNx L G0 c0) 2 [some (vR 127), some (vI 0)] [] L G 0 0 := by
  intro r
  induction r with
  | zero =>
    intro c G hc h0 hj hC hQ hF
    have hc : c = 24057 := by omega
    subst hc
    have h4 : G 127 25 = 33 := hC.1.2.2.2
    refine x_iloadn (pc := 2) dX12_nextLengths_2 rfl ?_
    refine x_ine (tgt := 175) (pc := 3) dX12_nextLengths_3 (by decide) (by omega) (fun c_3 => ?_) (fun c_3 => ?_)
    · skip
      exact absurd rfl c_3
    refine x_aloadn (pc := 6) dX12_nextLengths_6 rfl ?_
    refine x_getI (pc := 7) dX12_nextLengths_7 fl_X12_188 k_127 (hL 127 (by decide) (by decide)) ?_
    refine x_bipush (pc := 10) dX12_nextLengths_10 (by decide) ?_
    refine x_cgt (tgt := 175) (pc := 12) dX12_nextLengths_12 (by decide) (by omega) (fun c_12 => ?_) (fun c_12 => ?_)
    rotate_left
    · skip
      exact absurd c_12 (by omega)
    refine x_iloadn (pc := 175) dX12_nextLengths_175 rfl ?_
    refine x_rZ (pc := 176) dX12_nextLengths_176 rfl (by omega) ?_
    exact ⟨24057, by omega, Nat.le_refl _, fun j a b w => hj j a (by omega) ⟨by omega, w⟩, hC, Or.inr ⟨rfl, rfl⟩, hQ, hF⟩
  | succ r ih =>
    intro c G hc h0 hj hC hQ hF
    have hdec := zcd_ex c
    have hqz := hC.1
    have ht0 : c / 729 ≤ 32 := by omega
    obtain ⟨a, ha⟩ : ∃ a, a = c / 81 % 9 := ⟨_, rfl⟩
    obtain ⟨b, hb⟩ : ∃ b, b = c / 9 % 9 := ⟨_, rfl⟩
    obtain ⟨y, hy⟩ : ∃ y, y = c % 9 := ⟨_, rfl⟩
    obtain ⟨t, ht⟩ : ∃ t, t = c / 729 := ⟨_, rfl⟩
    have a8 : a < 9 := by rw [ha]; exact Nat.mod_lt _ (by decide)
    have b8 : b < 9 := by rw [hb]; exact Nat.mod_lt _ (by decide)
    have y8 : y < 9 := by rw [hy]; exact Nat.mod_lt _ (by decide)
    rw [← ha, ← hb, ← hy, ← ht] at hdec hqz
    rw [← ht] at ht0
    clear ha hb hy ht
    have h4 := hqz.2.2.2
    have last : ∀ (a b y t : Nat), 729 * t + 81 * a + 9 * b + y = c + 1 → a ≤ 8 → b ≤ 8 → y ≤ 8 → t ≤ 33 → ∀ (G' : Nat → Nat → Int) (o1 : Option (Nat × Int)), mQz a b y t G' → FM znxS [25] G0 G' → x_Fin xFL G' → X mX12_nextLengths 1 0 0 (pNx L G0 c0) 109 [some (vR 127), o1] [] L G' 0 0 := by
      intro a b y t hs a8 b8 y8 t33 G1 o1 q1 Q1 F1
      refine l_mo_nx4 hL F1 q1 ⟨a8, b8, y8, t33⟩ Q1 (fun G2 v m2 hv Q2 F2 => ?_)
      rw [hs] at m2 hv
      rcases hv with ⟨rfl, v1, v2⟩ | ⟨rfl, v1⟩
      · skip
        refine x_iloadn (pc := 2) dX12_nextLengths_2 rfl ?_
        refine x_ine (tgt := 175) (pc := 3) dX12_nextLengths_3 (by decide) (by omega) (fun c_3 => ?_) (fun c_3 => ?_)
        rotate_left
        · skip
          exact absurd c_3 (by decide)
        refine x_iloadn (pc := 175) dX12_nextLengths_175 rfl ?_
        refine x_rZ (pc := 176) dX12_nextLengths_176 rfl (by omega) ?_
        exact ⟨c + 1, by omega, by omega, fun j k1 k2 w => hj j k1 (by omega) ⟨by omega, w⟩, m2, Or.inl ⟨rfl, by omega, v2⟩, Q2, F2⟩
      · refine ih (c + 1) G2 (by omega) (by omega) (fun j k1 k2 w => ?_) m2 Q2 F2
        by_cases e : j = c + 1
        · subst e; exact v1 ⟨by omega, w.2⟩
        · exact hj j k1 (by omega) w
    refine x_iloadn (pc := 2) dX12_nextLengths_2 rfl ?_
    refine x_ine (tgt := 175) (pc := 3) dX12_nextLengths_3 (by decide) (by omega) (fun c_3 => ?_) (fun c_3 => ?_)
    · skip
      exact absurd rfl c_3
    refine x_aloadn (pc := 6) dX12_nextLengths_6 rfl ?_
    refine x_getI (pc := 7) dX12_nextLengths_7 fl_X12_188 k_127 (hL 127 (by decide) (by decide)) ?_
    refine x_bipush (pc := 10) dX12_nextLengths_10 (by decide) ?_
    refine x_cgt (tgt := 175) (pc := 12) dX12_nextLengths_12 (by decide) (by omega) (fun c_12 => ?_) (fun c_12 => ?_)
    · skip
      exact absurd c_12 (by omega)
    refine l_mo_nx1 hL hF hqz ⟨by omega, by omega, by omega, by omega⟩ hQ (fun G1 k1 Q1 F1 => ?_)
    rcases k1 with ⟨e1, k1⟩ | ⟨e1, k1⟩
    · refine l_mo_nx2 hL F1 k1 ⟨by omega, by omega, by omega, by omega⟩ Q1 (fun G2 k2 Q2 F2 => ?_)
      obtain ⟨e2, k2⟩ := k2.resolve_right (fun w => by omega)
      refine l_mo_nx3 hL F2 k2 ⟨by omega, by omega, by omega, by omega⟩ Q2 (fun G3 k3 Q3 F3 => ?_)
      obtain ⟨e3, k3⟩ := k3.resolve_right (fun w => by omega)
      exact last _ _ _ _ (by omega) (by omega) (by omega) (by omega) (by omega) G3 _ k3 Q3 F3
    · refine l_mo_nx2 hL F1 k1 ⟨by omega, by omega, by omega, by omega⟩ Q1 (fun G2 k2 Q2 F2 => ?_)
      rcases k2 with ⟨e2, k2⟩ | ⟨e2, k2⟩
      · refine l_mo_nx3 hL F2 k2 ⟨by omega, by omega, by omega, by omega⟩ Q2 (fun G3 k3 Q3 F3 => ?_)
        obtain ⟨e3, k3⟩ := k3.resolve_right (fun w => by omega)
        exact last _ _ _ _ (by omega) (by omega) (by omega) (by omega) (by omega) G3 _ k3 Q3 F3
      · refine l_mo_nx3 hL F2 k2 ⟨by omega, by omega, by omega, by omega⟩ Q2 (fun G3 k3 Q3 F3 => ?_)
        rcases k3 with ⟨e3, k3⟩ | ⟨e3, k3⟩
        · exact last _ _ _ _ (by omega) (by omega) (by omega) (by omega) (by omega) G3 _ k3 Q3 F3
        · exact last _ _ _ _ (by omega) (by omega) (by omega) (by omega) (by omega) G3 _ k3 Q3 F3
theorem c_mo_nextLengths {c0 : Nat} {G : Nat → Nat → Int} (hL : x_SL L) (hF : x_Fin xFL G) (hc0 : c0 < 24057) (hC : mCo c0 G) :
    CM yX12_nextLengths mX12_nextLengths 1 0 0 [vR 127] L G (pNx L G c0) := by
  refine Ct.of_X (μ := mX12_nextLengths) rfl rfl (by decide) (fun h => by cases h) (Nat.le_of_ble_eq_true rfl) rfl ?_
  refine x_iconst (pc := 0) dX12_nextLengths_0 ?_
  refine x_istoren (pc := 1) dX12_nextLengths_1 rfl (by decide) rfl ?_
  exact l_mo_nx hL hc0 (24057 - c0) c0 G (by omega) (Nat.le_refl _) (fun j a b => absurd a (by omega)) hC FM.rf hF
end XNY

