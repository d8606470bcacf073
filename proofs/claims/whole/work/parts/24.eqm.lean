/-! the reference's equations, bounds, told words -/
def mEq (m : Nat) (S : Nat → Nat) (I : Nat → Nat → Nat) (G : Nat → Nat → Int) : Prop := G 127 4 = m ∧ m ≤ 4 ∧ ∀ q, q < 2 * m → G 130 q = S q ∧ S q ≤ 12 ∧ ∀ j, j < S q → G 129 (12 * q + j) = I q j ∧ zV (I q j)
theorem zrun_bd {b : Nat → Nat} : ∀ (k i : Nat) (w : zW), i + k ≤ 100 → (zrun b k i w).1 = -1 ∨ (0 ≤ (zrun b k i w).1 ∧ (zrun b k i w).1 ≤ 100)
  | 0, i, w, h => by
    show (if w.2.1 = 1 then (-1 : Int) else i) = -1 ∨ (0 ≤ (if w.2.1 = 1 then (-1 : Int) else i) ∧ (if w.2.1 = 1 then (-1 : Int) else i) ≤ 100)
    split <;> omega
  | k + 1, i, w, h => by
    cases hz : zst (b i) w with
    | none => rw [zrun_n hz]; exact Or.inr (by show (0 : Int) ≤ i ∧ (i : Int) ≤ 100; omega)
    | some w' => rw [zrun_s hz]; exact zrun_bd k (i + 1) w' (by omega)
def mCp (k : Nat) (S : Nat → Nat) (I : Nat → Nat → Nat) (G : Nat → Nat → Int) : Prop := ∀ q, q < k → G 130 q = S q ∧ ∀ j, j < S q → G 129 (12 * q + j) = I q j
abbrev pTk (L : List Nat) (G0 : Nat → Nat → Int) (M : Nat) (S : Nat → Nat) (I : Nat → Nat → Nat) : x_Q := qI L fun x G' => x = M ∧ mEq M S I G' ∧ mTx 0 (fun _ => 0) G' ∧ FM [142, 143, 130, 129] [5, 4, 1] G0 G' ∧ x_Fin xFL G'
theorem mRow_FM {m : Nat} {S : Nat → Nat} {I : Nat → Nat → Nat} {G G' : Nat → Nat → Int} (h : mRow m S I G) (h1 : ∀ j, G' 142 j = G 142 j) (h2 : ∀ j, G' 143 j = G 143 j) : mRow m S I G' := fun q hq => by
  rw [h2]; exact ⟨(h q hq).1, (h q hq).2.1, fun j hj => by rw [h1]; exact (h q hq).2.2 j hj⟩
theorem l_mo_takeI {L : List Nat} {G0 : Nat → Nat → Int} {M k : Nat} {S : Nat → Nat} {I : Nat → Nat → Nat} (hL : x_SL L) (hM4 : M ≤ 4) (hk : k < 2 * M)
    (cont : ∀ G : Nat → Nat → Int, mCp (k + 1) S I G → mRow M S I G → G 127 4 = M → FM [142, 143, 130, 129] [5, 4, 1] G0 G → x_Fin xFL G → X mX12_take 2 0 0 (pTk L G0 M S I) 83 [some (vR 127), some (vI k), some (vI (S k))] [] L G 0 0) :
    ∀ (r i : Nat) (G : Nat → Nat → Int), i + r = S k → mCp k S I G → G 130 k = S k → (∀ j, j < i → G 129 (12 * k + j) = I k j) → mRow M S I G → G 127 4 = M → FM [142, 143, 130, 129] [5, 4, 1] G0 G → x_Fin xFL G →
    X mX12_take 2 0 0 (pTk L G0 M S I) 45 [some (vR 127), some (vI k), some (vI i)] [] L G 0 0 := by
  intro r
  induction r with
  | zero =>
    intro i G hi hC hs hI hR hE hF0 hF
    obtain ⟨r1, r2, r3⟩ := hR k hk
    have hi : i = S k := by omega
    subst hi
    refine x_iloadn (pc := 45) dX12_take_45 rfl ?_
    refine x_aloadn (pc := 46) dX12_take_46 rfl ?_
    refine x_getR (143) (pc := 47) dX12_take_47 fl_X12_55 k_127 (hL 127 (by decide) (by decide)) (f_127_19 hF) ?_
    refine x_iloadn (pc := 50) dX12_take_50 rfl ?_
    refine x_iald (k) (pc := 51) dX12_take_51 k_143 (hL 143 (by decide) (by decide)) (⟨by omega, by omega, by decide⟩) ?_
    refine x_cge (tgt := 83) (pc := 52) dX12_take_52 (by decide) (by omega) (fun c_52 => ?_) (fun c_52 => ?_)
    rotate_left
    · skip
      exact absurd c_52 (by omega)
    refine cont G (fun q hq => ?_) hR hE hF0 hF
    by_cases c : q = k
    · subst c; exact ⟨hs, hI⟩
    · exact hC q (by omega)
  | succ r ih =>
    intro i G hi hC hs hI hR hE hF0 hF
    obtain ⟨r1, r2, r3⟩ := hR k hk
    have r3i := (r3 i (by omega)).1
    refine x_iloadn (pc := 45) dX12_take_45 rfl ?_
    refine x_aloadn (pc := 46) dX12_take_46 rfl ?_
    refine x_getR (143) (pc := 47) dX12_take_47 fl_X12_55 k_127 (hL 127 (by decide) (by decide)) (f_127_19 hF) ?_
    refine x_iloadn (pc := 50) dX12_take_50 rfl ?_
    refine x_iald (k) (pc := 51) dX12_take_51 k_143 (hL 143 (by decide) (by decide)) (⟨by omega, by omega, by decide⟩) ?_
    refine x_cge (tgt := 83) (pc := 52) dX12_take_52 (by decide) (by omega) (fun c_52 => ?_) (fun c_52 => ?_)
    · skip
      exact absurd c_52 (by omega)
    refine x_aloadn (pc := 55) dX12_take_55 rfl ?_
    refine x_getR (129) (pc := 56) dX12_take_56 fl_X12_13 k_127 (hL 127 (by decide) (by decide)) (f_127_2 hF) ?_
    refine x_bipush (pc := 59) dX12_take_59 (by decide) ?_
    refine x_iloadn (pc := 61) dX12_take_61 rfl ?_
    refine x_imul (pc := 62) dX12_take_62 ?_
    refine x_iloadn (pc := 63) dX12_take_63 rfl ?_
    refine x_iadd (pc := 64) dX12_take_64 ?_
    refine x_aloadn (pc := 65) dX12_take_65 rfl ?_
    refine x_getR (142) (pc := 66) dX12_take_66 fl_X12_52 k_127 (hL 127 (by decide) (by decide)) (f_127_18 hF) ?_
    refine x_bipush (pc := 69) dX12_take_69 (by decide) ?_
    refine x_iloadn (pc := 71) dX12_take_71 rfl ?_
    refine x_imul (pc := 72) dX12_take_72 ?_
    refine x_iloadn (pc := 73) dX12_take_73 rfl ?_
    refine x_iadd (pc := 74) dX12_take_74 ?_
    refine x_iald (12 * k + i) (pc := 75) dX12_take_75 k_142 (hL 142 (by decide) (by decide)) (⟨by omega, by omega, by decide⟩) ?_
    rw [r3i]
    refine x_iastF (12 * k + i) (pc := 76) dX12_take_76 k_129 (hL 129 (by decide) (by decide)) (⟨by omega, by omega, by decide⟩) hF (fun hF => ?_)
    refine x_iinc (pc := 77) dX12_take_77 rfl (by decide) rfl ?_
    refine x_goto (tgt := 45) (pc := 80) dX12_take_80 (by decide) ?_
    refine ih (i + 1) _ (by omega) (fun q hq => ?_) ?_ (fun j hj => ?_) (mRow_FM hR (fun j => by rw [x_up_ne (by decide)]) (fun j => by rw [x_up_ne (by decide)])) (by rw [x_up_ne (by decide)]; exact hE) (hF0.upA (by decide)) hF
    · obtain ⟨q1, q2⟩ := hC q hq
      have := (hR q (by omega)).2.1
      refine ⟨by rw [x_up_ne (by decide)]; exact q1, fun j hj => by rw [x_up_k (by omega)]; exact q2 j hj⟩
    · rw [x_up_ne (by decide)]; exact hs
    · by_cases c : j = i
      · subst c; exact x_up_s
      · rw [x_up_k (by omega)]; exact hI j (by omega)
theorem l_mo_takeO {L : List Nat} {G0 : Nat → Nat → Int} {M : Nat} {S : Nat → Nat} {I : Nat → Nat → Nat} (hL : x_SL L) (hM4 : M ≤ 4) :
    ∀ (r k : Nat) (G : Nat → Nat → Int) (o : Option (Nat × Int)), k + r = 2 * M → mCp k S I G → mRow M S I G → G 127 4 = M → FM [142, 143, 130, 129] [5, 4, 1] G0 G → x_Fin xFL G →
    X mX12_take 2 0 0 (pTk L G0 M S I) 21 [some (vR 127), some (vI k), o] [] L G 0 0 := by
  intro r
  induction r with
  | zero =>
    intro k G o hi hC hR hE hF0 hF
    refine x_iloadn (pc := 21) dX12_take_21 rfl ?_
    refine x_iconst (pc := 22) dX12_take_22 ?_
    refine x_aloadn (pc := 23) dX12_take_23 rfl ?_
    refine x_getI (pc := 24) dX12_take_24 fl_X12_154 k_127 (hL 127 (by decide) (by decide)) ?_
    refine x_imul (pc := 27) dX12_take_27 ?_
    refine x_cge (tgt := 89) (pc := 28) dX12_take_28 (by decide) (by omega) (fun c_28 => ?_) (fun c_28 => ?_)
    rotate_left
    · skip
      exact absurd c_28 (by omega)
    refine x_aloadn (pc := 89) dX12_take_89 rfl ?_
    refine x_iconst (pc := 90) dX12_take_90 ?_
    refine x_putIF (pc := 91) dX12_take_91 fp_X12_137 k_127 (hL 127 (by decide) (by decide)) hF (fun hF => ?_)
    refine x_aloadn (pc := 94) dX12_take_94 rfl ?_
    refine x_getI (pc := 95) dX12_take_95 fl_X12_154 k_127 (hL 127 (by decide) (by decide)) ?_
    refine x_rI (pc := 98) dX12_take_98 rfl ?_
    refine ⟨by rw [x_up_k (by decide)]; exact hE, ⟨by rw [x_up_k (by decide)]; exact hE, hM4, fun q hq => ?_⟩, ⟨x_up_s, by decide, fun i hi => absurd hi (Nat.not_lt_zero i)⟩, hF0.upF (by decide), hF⟩
    obtain ⟨q1, q2⟩ := hC q (by omega)
    obtain ⟨q3, q4, q5⟩ := hR q hq
    exact ⟨by rw [x_up_ne (by decide)]; exact q1, q4, fun j hj => ⟨by rw [x_up_ne (by decide)]; exact q2 j hj, (q5 j hj).2⟩⟩
  | succ r ih =>
    intro k G o hi hC hR hE hF0 hF
    obtain ⟨r1, r2, r3⟩ := hR k (by omega)
    refine x_iloadn (pc := 21) dX12_take_21 rfl ?_
    refine x_iconst (pc := 22) dX12_take_22 ?_
    refine x_aloadn (pc := 23) dX12_take_23 rfl ?_
    refine x_getI (pc := 24) dX12_take_24 fl_X12_154 k_127 (hL 127 (by decide) (by decide)) ?_
    refine x_imul (pc := 27) dX12_take_27 ?_
    refine x_cge (tgt := 89) (pc := 28) dX12_take_28 (by decide) (by omega) (fun c_28 => ?_) (fun c_28 => ?_)
    · skip
      exact absurd c_28 (by omega)
    refine x_aloadn (pc := 31) dX12_take_31 rfl ?_
    refine x_getR (130) (pc := 32) dX12_take_32 fl_X12_16 k_127 (hL 127 (by decide) (by decide)) (f_127_3 hF) ?_
    refine x_iloadn (pc := 35) dX12_take_35 rfl ?_
    refine x_aloadn (pc := 36) dX12_take_36 rfl ?_
    refine x_getR (143) (pc := 37) dX12_take_37 fl_X12_55 k_127 (hL 127 (by decide) (by decide)) (f_127_19 hF) ?_
    refine x_iloadn (pc := 40) dX12_take_40 rfl ?_
    refine x_iald (k) (pc := 41) dX12_take_41 k_143 (hL 143 (by decide) (by decide)) (⟨by omega, by omega, by decide⟩) ?_
    rw [r1]
    refine x_iastF (k) (pc := 42) dX12_take_42 k_130 (hL 130 (by decide) (by decide)) (⟨by omega, by omega, by decide⟩) hF (fun hF => ?_)
    refine x_iconst (pc := 43) dX12_take_43 ?_
    refine x_istoren (pc := 44) dX12_take_44 rfl (by decide) rfl ?_
    refine l_mo_takeI hL hM4 (k := k) (by omega) (fun G2 a1 a2 a3 a4 a5 => ?_) (S k) 0 _ (by omega) (fun q hq => ?_) x_up_s (fun j hj => absurd hj (Nat.not_lt_zero j)) (mRow_FM hR (fun j => by rw [x_up_ne (by decide)]) (fun j => by rw [x_up_ne (by decide)])) (by rw [x_up_ne (by decide)]; exact hE) (hF0.upA (by decide)) hF
    · refine x_iinc (pc := 83) dX12_take_83 rfl (by decide) rfl ?_
      refine x_goto (tgt := 21) (pc := 86) dX12_take_86 (by decide) ?_
      exact ih (k + 1) G2 _ (by omega) a1 a2 a3 a4 a5
    · obtain ⟨q1, q2⟩ := hC q hq
      refine ⟨by rw [x_up_k (by omega)]; exact q1, fun j hj => by rw [x_up_ne (by decide)]; exact q2 j hj⟩
theorem c_mo_take {n : Nat} {b : Nat → Nat} {L : List Nat} {G : Nat → Nat → Int} (hL : x_SL L) (hF : x_Fin xFL G) (hT : mTx n b G) :
    CM yX12_take mX12_take 2 0 0 [vR 127] L G (qI L fun x G' => ((zrun b n 0 zw0).1 ≠ -1 ∧ x = -4 ∧ FM [142, 143] [5] G G' ∧ x_Fin xFL G') ∨ ((zrun b n 0 zw0).1 = -1 ∧ x = (((zrun b n 0 zw0).2.1 + 1 : Nat) : Int) ∧ mEq ((zrun b n 0 zw0).2.1 + 1) (zrun b n 0 zw0).2.2.2.1 (zrun b n 0 zw0).2.2.2.2 G' ∧ mTx 0 (fun _ => 0) G' ∧ FM [142, 143, 130, 129] [5, 4, 1] G G' ∧ x_Fin xFL G')) := by
  generalize hz : zrun b n 0 zw0 = z
  have hzb : z.1 = -1 ∨ (0 ≤ z.1 ∧ z.1 ≤ 100) := by rw [← hz]; exact zrun_bd n 0 zw0 (by have := hT.2.1; omega)
  refine Ct.of_X (μ := mX12_take) rfl rfl (by decide) (fun h => by cases h) (Nat.le_of_ble_eq_true rfl) rfl ?_
  refine x_aloadn (pc := 0) dX12_take_0 rfl ?_
  refine x_cVI (pc := 1) dX12_take_1 lk_X12_150 (c_mo_fault hL hF hT) k_127 ⟨by decide, rfl⟩ (hL 127 (by decide) (by decide)) (⟨by decide, by decide⟩) (Nat.le_of_ble_eq_true rfl) rfl ?_
  rw [hz]; rintro x G' ⟨hx, hR, hF, hM⟩; subst hx
  refine x_iconst (pc := 4) dX12_take_4 ?_
  refine x_ceq (tgt := 11) (pc := 5) dX12_take_5 (by decide) (by omega) (fun c_5 => ?_) (fun c_5 => ?_)
  · skip
    obtain ⟨m1, m2, m3⟩ := hM c_5
    refine x_aloadn (pc := 11) dX12_take_11 rfl ?_
    refine x_aloadn (pc := 12) dX12_take_12 rfl ?_
    refine x_getI (pc := 13) dX12_take_13 fl_X12_147 k_127 (hL 127 (by decide) (by decide)) ?_
    rw [m1]
    refine x_putIF (pc := 16) dX12_take_16 fp_X12_154 k_127 (hL 127 (by decide) (by decide)) hF (fun hF => ?_)
    refine x_iconst (pc := 19) dX12_take_19 ?_
    refine x_istoren (pc := 20) dX12_take_20 rfl (by decide) rfl ?_
    skip
    refine X.imp (fun v L' G2 hq => ?_) (l_mo_takeO (G0 := G) (M := z.2.1 + 1) (S := z.2.2.2.1) (I := z.2.2.2.2) hL (by omega) (2 * (z.2.1 + 1)) 0 _ _ (by omega) (fun q hq => absurd hq (Nat.not_lt_zero q)) (mRow_FM m3 (fun j => by rw [x_up_ne (by decide)]) (fun j => by rw [x_up_ne (by decide)])) x_up_s ((hR.mono (by decide) (by decide)).upF (by decide)) hF)
    obtain ⟨e1, x, e2, e3, e4⟩ := hq
    exact ⟨e1, x, e2, Or.inr ⟨c_5, e3, e4⟩⟩
  · skip
    refine x_bipush (pc := 8) dX12_take_8 (by decide) ?_
    refine x_rI (pc := 10) dX12_take_10 rfl ?_
    exact Or.inl ⟨by omega, rfl, hR, hF⟩
theorem c_mo_isEquation {m : Nat} {S : Nat → Nat} {I : Nat → Nat → Nat} {a : Int} {L : List Nat} {G : Nat → Nat → Int} (hL : x_SL L) (hF : x_Fin xFL G) (hE : mEq m S I G) (ha : -2147483648 ≤ a ∧ a < 2147483648) :
    CM yX12_isEquation mX12_isEquation 1 0 0 [vR 127, vI a] L G (qI L fun x G' => x = (if 0 ≤ a ∧ a < m then 1 else 0) ∧ G' = G) := by
  obtain ⟨h1, h2, h3⟩ := hE
  refine Ct.of_X (μ := mX12_isEquation) rfl rfl (by decide) (fun h => by cases h) (Nat.le_of_ble_eq_true rfl) rfl ?_
  refine x_iloadn (pc := 0) dX12_isEquation_0 rfl ?_
  refine x_i2l (pc := 1) dX12_isEquation_1 (by omega) ?_
  refine x_lconst (x := 0) (pc := 2) dX12_isEquation_2 (by decide) ?_
  refine x_aloadn (pc := 3) dX12_isEquation_3 rfl ?_
  refine x_getI (pc := 4) dX12_isEquation_4 fl_X12_154 k_127 (hL 127 (by decide) (by decide)) ?_
  refine x_iconst (pc := 7) dX12_isEquation_7 ?_
  refine x_isub (pc := 8) dX12_isEquation_8 ?_
  refine x_i2l (pc := 9) dX12_isEquation_9 (by omega) ?_
  refine x_cSI (pc := 10) dX12_isEquation_10 lk_X12_131 (c_mo_in (by omega)) (⟨by decide, by decide⟩) (Nat.le_of_ble_eq_true rfl) rfl ?_
  rintro x G' ⟨rfl, rfl⟩
  refine x_rZ (pc := 13) dX12_isEquation_13 rfl (by split <;> omega) ?_
  exact ⟨by split <;> split <;> omega, rfl⟩
theorem c_mo_isName {a : Int} {L : List Nat} {G : Nat → Nat → Int} (ha : -2147483648 ≤ a ∧ a < 2147483648) :
    CM yX12_isName mX12_isName 1 0 0 [vI a] L G (qI L fun x G' => x = (if 0 ≤ a ∧ a < 4 then 1 else 0) ∧ G' = G) := by
  refine Ct.of_X (μ := mX12_isName) rfl rfl (by decide) (fun h => by cases h) (Nat.le_of_ble_eq_true rfl) rfl ?_
  refine x_iloadn (pc := 0) dX12_isName_0 rfl ?_
  refine x_i2l (pc := 1) dX12_isName_1 (by omega) ?_
  refine x_lconst (x := 0) (pc := 2) dX12_isName_2 (by decide) ?_
  refine x_ldc2 (pc := 3) dX12_isName_3 co_X12_129 ?_
  refine x_cSI (pc := 6) dX12_isName_6 lk_X12_131 (c_mo_in (by omega)) (⟨by decide, by decide⟩) (Nat.le_of_ble_eq_true rfl) rfl ?_
  rintro x G' ⟨rfl, rfl⟩
  refine x_rZ (pc := 9) dX12_isName_9 rfl (by split <;> omega) ?_
  exact ⟨by split <;> split <;> omega, rfl⟩
/-- what item answers -/
def zitm (m : Nat) (S : Nat → Nat) (I : Nat → Nat → Nat) (e s i : Int) : Int :=
  if ¬ (0 ≤ e ∧ e < m) then -2 else if ¬ ((s = 0 ∨ s = 1) ∧ 0 ≤ i) then -3 else if i < S (2 * e + s).toNat then I (2 * e + s).toNat i.toNat else -1
theorem c_mo_item {m : Nat} {S : Nat → Nat} {I : Nat → Nat → Nat} {e s i : Int} {L : List Nat} {G : Nat → Nat → Int} (hL : x_SL L) (hF : x_Fin xFL G) (hE : mEq m S I G) (he : -2147483648 ≤ e ∧ e < 2147483648) (hs : -2147483648 ≤ s ∧ s < 2147483648) (hi : -2147483648 ≤ i ∧ i < 2147483648) :
    CM yX12_item mX12_item 2 0 0 [vR 127, vI e, vI s, vI i] L G (qI L fun x G' => x = zitm m S I e s i ∧ G' = G) := by
  obtain ⟨h1, h2, h3⟩ := id hE
  refine Ct.of_X (μ := mX12_item) rfl rfl (by decide) (fun h => by cases h) (Nat.le_of_ble_eq_true rfl) rfl ?_
  refine x_aloadn (pc := 0) dX12_item_0 rfl ?_
  refine x_iloadn (pc := 1) dX12_item_1 rfl ?_
  refine x_cVI (pc := 2) dX12_item_2 lk_X12_157 (c_mo_isEquation hL hF hE he) k_127 ⟨by decide, rfl⟩ (hL 127 (by decide) (by decide)) (⟨by decide, by decide⟩) (Nat.le_of_ble_eq_true rfl) rfl ?_
  rintro x G' ⟨rfl, rfl⟩
  refine x_ine (tgt := 11) (pc := 5) dX12_item_5 (by decide) (by split <;> omega) (fun c_5 => ?_) (fun c_5 => ?_)
  · skip
    refine x_iloadn (pc := 11) dX12_item_11 rfl ?_
    refine x_i2l (pc := 12) dX12_item_12 (by omega) ?_
    refine x_lconst (x := 0) (pc := 13) dX12_item_13 (by decide) ?_
    refine x_lconst (x := 1) (pc := 14) dX12_item_14 (by decide) ?_
    refine x_cSI (pc := 15) dX12_item_15 lk_X12_131 (c_mo_in (by omega)) (⟨by decide, by decide⟩) (Nat.le_of_ble_eq_true rfl) rfl ?_
    rintro x G' ⟨rfl, rfl⟩
    refine x_ieq (tgt := 25) (pc := 18) dX12_item_18 (by decide) (by split <;> omega) (fun c_18 => ?_) (fun c_18 => ?_)
    · skip
      refine x_bipush (pc := 25) dX12_item_25 (by decide) ?_
      refine x_rI (pc := 27) dX12_item_27 rfl ?_
      exact ⟨by unfold zitm; rw [if_neg (by split at c_5 <;> omega), if_pos (by split at c_18 <;> omega)], rfl⟩
    · skip
      refine x_iloadn (pc := 21) dX12_item_21 rfl ?_
      refine x_ige (tgt := 28) (pc := 22) dX12_item_22 (by decide) (by omega) (fun c_22 => ?_) (fun c_22 => ?_)
      · skip
        have g1 : 0 ≤ e ∧ e < m := by split at c_5 <;> omega
        have g2 : s = 0 ∨ s = 1 := by split at c_18 <;> omega
        obtain ⟨E, rfl⟩ : ∃ E : Nat, e = E := ⟨e.toNat, by omega⟩
        obtain ⟨U, rfl⟩ : ∃ U : Nat, s = U := ⟨s.toNat, by omega⟩
        obtain ⟨i, rfl⟩ : ∃ j : Nat, i = j := ⟨i.toNat, by omega⟩
        obtain ⟨q1, q2, q3⟩ := h3 (2 * E + U) (by omega)
        have et : (2 * (E : Int) + (U : Int)).toNat = 2 * E + U := by omega
        refine x_iloadn (pc := 28) dX12_item_28 rfl ?_
        refine x_aloadn (pc := 29) dX12_item_29 rfl ?_
        refine x_getR (130) (pc := 30) dX12_item_30 fl_X12_16 k_127 (hL 127 (by decide) (by decide)) (f_127_3 hF) ?_
        refine x_iconst (pc := 33) dX12_item_33 ?_
        refine x_iloadn (pc := 34) dX12_item_34 rfl ?_
        refine x_imul (pc := 35) dX12_item_35 ?_
        refine x_iloadn (pc := 36) dX12_item_36 rfl ?_
        refine x_iadd (pc := 37) dX12_item_37 ?_
        refine x_iald (2 * E + U) (pc := 38) dX12_item_38 k_130 (hL 130 (by decide) (by decide)) (⟨by omega, by omega, by decide⟩) ?_
        rw [q1]
        refine x_cge (tgt := 60) (pc := 39) dX12_item_39 (by decide) (by omega) (fun c_39 => ?_) (fun c_39 => ?_)
        · skip
          refine x_iconst (pc := 60) dX12_item_60 ?_
          refine x_rI (pc := 61) dX12_item_61 rfl ?_
          exact ⟨by unfold zitm; rw [if_neg (by omega), if_neg (by omega), et]; first | (rw [if_pos (by omega), Int.toNat_natCast, (q3 i (by omega)).1]; done) | (rw [if_neg (by omega)]; done), rfl⟩
        · skip
          refine x_aloadn (pc := 42) dX12_item_42 rfl ?_
          refine x_getR (129) (pc := 43) dX12_item_43 fl_X12_13 k_127 (hL 127 (by decide) (by decide)) (f_127_2 hF) ?_
          refine x_bipush (pc := 46) dX12_item_46 (by decide) ?_
          refine x_iconst (pc := 48) dX12_item_48 ?_
          refine x_iloadn (pc := 49) dX12_item_49 rfl ?_
          refine x_imul (pc := 50) dX12_item_50 ?_
          refine x_iloadn (pc := 51) dX12_item_51 rfl ?_
          refine x_iadd (pc := 52) dX12_item_52 ?_
          refine x_imul (pc := 53) dX12_item_53 ?_
          refine x_iloadn (pc := 54) dX12_item_54 rfl ?_
          refine x_iadd (pc := 55) dX12_item_55 ?_
          refine x_iald (12 * (2 * E + U) + i) (pc := 56) dX12_item_56 k_129 (hL 129 (by decide) (by decide)) (⟨by omega, by omega, by decide⟩) ?_
          refine x_goto (tgt := 61) (pc := 57) dX12_item_57 (by decide) ?_
          refine x_rI (pc := 61) dX12_item_61 rfl ?_
          exact ⟨by unfold zitm; rw [if_neg (by omega), if_neg (by omega), et]; first | (rw [if_pos (by omega), Int.toNat_natCast, (q3 i (by omega)).1]; done) | (rw [if_neg (by omega)]; done), rfl⟩
      · skip
        refine x_bipush (pc := 25) dX12_item_25 (by decide) ?_
        refine x_rI (pc := 27) dX12_item_27 rfl ?_
        exact ⟨by unfold zitm; rw [if_neg (by split at c_5 <;> omega), if_pos (by split at c_18 <;> omega)], rfl⟩
  · skip
    refine x_bipush (pc := 8) dX12_item_8 (by decide) ?_
    refine x_rI (pc := 10) dX12_item_10 rfl ?_
    exact ⟨by unfold zitm; rw [if_pos (by split at c_5 <;> omega)], rfl⟩

