/-! the class's small functions, and rows of items -/
theorem c_ts_none {a : Int} {L : List Nat} {G : Nat → Nat → Int} (ha : -2147483648 ≤ a ∧ a < 2147483648) :
    CM yX11_isNoneOfFour mX11_isNoneOfFour 0 0 0 [vI a] L G (qI L fun x G' => x = (if 0 ≤ a ∧ a < 4 then 0 else 1) ∧ G' = G) := by
  refine Ct.of_X (μ := mX11_isNoneOfFour) rfl rfl (by decide) (fun h => by cases h) (Nat.le_of_ble_eq_true rfl) rfl ?_
  refine x_iloadn (pc := 0) dX11_isNoneOfFour_0 rfl ?_
  refine x_ilt (tgt := 9) (pc := 1) dX11_isNoneOfFour_1 (by decide) (by omega) (fun c_1 => ?_) (fun c_1 => ?_)
  · skip
    refine x_iconst (pc := 9) dX11_isNoneOfFour_9 ?_
    refine x_goto (tgt := 14) (pc := 10) dX11_isNoneOfFour_10 (by decide) ?_
    refine x_rZ (pc := 14) dX11_isNoneOfFour_14 rfl (by omega) ?_
    exact ⟨by split <;> omega, rfl⟩
  · skip
    refine x_iloadn (pc := 4) dX11_isNoneOfFour_4 rfl ?_
    refine x_iconst (pc := 5) dX11_isNoneOfFour_5 ?_
    refine x_clt (tgt := 13) (pc := 6) dX11_isNoneOfFour_6 (by decide) (by omega) (fun c_6 => ?_) (fun c_6 => ?_)
    · skip
      refine x_iconst (pc := 13) dX11_isNoneOfFour_13 ?_
      refine x_rZ (pc := 14) dX11_isNoneOfFour_14 rfl (by omega) ?_
      exact ⟨by split <;> omega, rfl⟩
    · skip
      refine x_iconst (pc := 9) dX11_isNoneOfFour_9 ?_
      refine x_goto (tgt := 14) (pc := 10) dX11_isNoneOfFour_10 (by decide) ?_
      refine x_rZ (pc := 14) dX11_isNoneOfFour_14 rfl (by omega) ?_
      exact ⟨by split <;> omega, rfl⟩
theorem c_ts_isU {a : Int} {L : List Nat} {G : Nat → Nat → Int} (ha : -2147483648 ≤ a ∧ a < 2147483648) :
    CM yX11_isUnknown mX11_isUnknown 0 0 0 [vI a] L G (qI L fun x G' => x = (if 4 ≤ a then 1 else 0) ∧ G' = G) := by
  refine Ct.of_X (μ := mX11_isUnknown) rfl rfl (by decide) (fun h => by cases h) (Nat.le_of_ble_eq_true rfl) rfl ?_
  refine x_iloadn (pc := 0) dX11_isUnknown_0 rfl ?_
  refine x_iconst (pc := 1) dX11_isUnknown_1 ?_
  refine x_clt (tgt := 9) (pc := 2) dX11_isUnknown_2 (by decide) (by omega) (fun c_2 => ?_) (fun c_2 => ?_)
  · skip
    refine x_iconst (pc := 9) dX11_isUnknown_9 ?_
    refine x_rZ (pc := 10) dX11_isUnknown_10 rfl (by omega) ?_
    exact ⟨by split <;> omega, rfl⟩
  · skip
    refine x_iconst (pc := 5) dX11_isUnknown_5 ?_
    refine x_goto (tgt := 10) (pc := 6) dX11_isUnknown_6 (by decide) ?_
    refine x_rZ (pc := 10) dX11_isUnknown_10 rfl (by omega) ?_
    exact ⟨by split <;> omega, rfl⟩
theorem c_ts_uOf {a : Int} {L : List Nat} {G : Nat → Nat → Int} :
    CM yX11_unknownOf mX11_unknownOf 0 0 0 [vI a] L G (qI L fun x G' => x = a % 4 ∧ G' = G) := by
  refine Ct.of_X (μ := mX11_unknownOf) rfl rfl (by decide) (fun h => by cases h) (Nat.le_of_ble_eq_true rfl) rfl ?_
  refine x_iloadn (pc := 0) dX11_unknownOf_0 rfl ?_
  refine x_iconst (pc := 1) dX11_unknownOf_1 ?_
  refine x_iandm (pc := 2) dX11_unknownOf_2 2 4 (by decide) (by decide) (by decide) ?_
  refine x_rI (pc := 3) dX11_unknownOf_3 rfl ?_
  exact ⟨rfl, rfl⟩
theorem c_ts_letterOf {w : Int} {i : Nat} {L : List Nat} {G : Nat → Nat → Int} (hw : -9223372036854775808 ≤ w ∧ w < 9223372036854775808) (hi : i ≤ 30) :
    CM yX11_letterOf mX11_letterOf 0 0 0 [vL w, vI i] L G (qI L fun x G' => x = zlet w i ∧ G' = G) := by
  refine Ct.of_X (μ := mX11_letterOf) rfl rfl (by decide) (fun h => by cases h) (Nat.le_of_ble_eq_true rfl) rfl ?_
  refine x_lloadn (pc := 0) dX11_letterOf_0 rfl ?_
  refine x_iconst (pc := 1) dX11_letterOf_1 ?_
  refine x_iloadn (pc := 2) dX11_letterOf_2 rfl ?_
  refine x_imul (pc := 3) dX11_letterOf_3 ?_
  refine x_lshr (pc := 4) dX11_letterOf_4 (2 * i) (by omega) (by omega) (by omega) ?_
  refine x_ldc2 (pc := 5) dX11_letterOf_5 co_X11_241 ?_
  refine x_landm (pc := 8) dX11_letterOf_8 2 4 (by decide) (by decide) (by decide) ?_
  refine x_l2i (pc := 9) dX11_letterOf_9 ?_
  refine x_rI (pc := 10) dX11_letterOf_10 rfl ?_
  exact ⟨rfl, rfl⟩
theorem c_ts_capped {w : Int} {L : List Nat} {G : Nat → Nat → Int} (hw : -9223372036854775808 ≤ w ∧ w < 9223372036854775808) (h0 : -2147483648 ≤ w) :
    CM yX11_capped mX11_capped 0 0 0 [vL w] L G (qI L fun x G' => x = (if 1000000001 ≤ w then 1000000001 else w) ∧ G' = G) := by
  refine Ct.of_X (μ := mX11_capped) rfl rfl (by decide) (fun h => by cases h) (Nat.le_of_ble_eq_true rfl) rfl ?_
  refine x_lloadn (pc := 0) dX11_capped_0 rfl ?_
  refine x_ldc2 (pc := 1) dX11_capped_1 co_X11_247 ?_
  refine x_lcmp (pc := 4) dX11_capped_4 (by omega) ?_
  refine x_ilt (tgt := 13) (pc := 5) dX11_capped_5 (by decide) (zl_rg) (fun c_5 => ?_) (fun c_5 => ?_)
  · skip
    have c_5 := zl_l c_5
    refine x_lloadn (pc := 13) dX11_capped_13 rfl ?_
    refine x_l2i (pc := 14) dX11_capped_14 ?_
    refine x_rI (pc := 15) dX11_capped_15 rfl ?_
    exact ⟨by split <;> omega, rfl⟩
  · skip
    have c_5 := zl_ge c_5
    refine x_ldc (pc := 8) dX11_capped_8 co_X11_249 ?_
    refine x_goto (tgt := 15) (pc := 10) dX11_capped_10 (by decide) ?_
    refine x_rI (pc := 15) dX11_capped_15 rfl ?_
    exact ⟨by split <;> omega, rfl⟩
theorem l_ts_hasNo {w : Int} {n : Nat} {L : List Nat} {G : Nat → Nat → Int} (hw : -9223372036854775808 ≤ w ∧ w < 9223372036854775808) (hn : n ≤ 30) :
    ∀ (k i : Nat), i + k = n → zgood w i → X mX11_hasNoLetter 1 0 0 (qI L fun x G' => ((x = 0 ∧ zgood w n) ∨ (x = 1 ∧ ¬ zgood w n)) ∧ G' = G) 2 [some (vL w), none, some (vI n), some (vI i)] [] L G 0 0 := by
  intro k
  induction k with
  | zero =>
    intro i hi hg
    have hi : i = n := by omega
    subst hi
    refine x_iloadn (pc := 2) dX11_hasNoLetter_2 rfl ?_
    refine x_iloadn (pc := 3) dX11_hasNoLetter_3 rfl ?_
    refine x_cge (tgt := 24) (pc := 4) dX11_hasNoLetter_4 (by decide) (by omega) (fun c_4 => ?_) (fun c_4 => ?_)
    rotate_left
    · skip
      exact absurd c_4 (by omega)
    refine x_iconst (pc := 24) dX11_hasNoLetter_24 ?_
    refine x_rZ (pc := 25) dX11_hasNoLetter_25 rfl (by omega) ?_
    exact ⟨Or.inl ⟨rfl, hg⟩, rfl⟩
  | succ k ih =>
    intro i hi hg
    have hzb := zlet_bd w i
    refine x_iloadn (pc := 2) dX11_hasNoLetter_2 rfl ?_
    refine x_iloadn (pc := 3) dX11_hasNoLetter_3 rfl ?_
    refine x_cge (tgt := 24) (pc := 4) dX11_hasNoLetter_4 (by decide) (by omega) (fun c_4 => ?_) (fun c_4 => ?_)
    · skip
      exact absurd c_4 (by omega)
    refine x_lloadn (pc := 7) dX11_hasNoLetter_7 rfl ?_
    refine x_iloadn (pc := 8) dX11_hasNoLetter_8 rfl ?_
    refine x_cSI (pc := 9) dX11_hasNoLetter_9 lk_X11_243 (c_ts_letterOf hw (by omega)) (⟨by decide, by decide⟩) (Nat.le_of_ble_eq_true rfl) rfl ?_
    rintro x G' ⟨rfl, rfl⟩
    refine x_iconst (pc := 12) dX11_hasNoLetter_12 ?_
    refine x_cne (tgt := 18) (pc := 13) dX11_hasNoLetter_13 (by decide) (by omega) (fun c_13 => ?_) (fun c_13 => ?_)
    · skip
      refine x_iinc (pc := 18) dX11_hasNoLetter_18 rfl (by decide) rfl ?_
      refine x_goto (tgt := 2) (pc := 21) dX11_hasNoLetter_21 (by decide) ?_
      exact ih (i + 1) (by omega) (zgood_s hg (by omega))
    · skip
      refine x_iconst (pc := 16) dX11_hasNoLetter_16 ?_
      refine x_rZ (pc := 17) dX11_hasNoLetter_17 rfl (by omega) ?_
      exact ⟨Or.inr ⟨rfl, fun q => by have := q i (by omega); omega⟩, rfl⟩
theorem c_ts_hasNo {w a : Int} {L : List Nat} {G : Nat → Nat → Int} (hw : -9223372036854775808 ≤ w ∧ w < 9223372036854775808) (ha : 0 ≤ a ∧ a ≤ 30) :
    CM yX11_hasNoLetter mX11_hasNoLetter 1 0 0 [vL w, vI a] L G (qI L fun x G' => ((x = 0 ∧ zgood w a.toNat) ∨ (x = 1 ∧ ¬ zgood w a.toNat)) ∧ G' = G) := by
  obtain ⟨n, rfl⟩ : ∃ n : Nat, a = n := ⟨a.toNat, by omega⟩
  rw [Int.toNat_natCast]
  refine Ct.of_X (μ := mX11_hasNoLetter) rfl rfl (by decide) (fun h => by cases h) (Nat.le_of_ble_eq_true rfl) rfl ?_
  refine x_iconst (pc := 0) dX11_hasNoLetter_0 ?_
  refine x_istoren (pc := 1) dX11_hasNoLetter_1 rfl (by decide) rfl ?_
  exact l_ts_hasNo hw (by omega) n 0 (by omega) (fun j hj => absurd hj (Nat.not_lt_zero j))
/-! Arrays.fill -/
theorem l_fillI {r N : Nat} {x : Int} {L : List Nat} {G0 : Nat → Nat → Int} (hk : xK r = (13, N)) (hr : r ∈ L) (hN : N ≤ 36000) :
    ∀ (k i : Nat) (G : Nat → Nat → Int), i + k = N → (∀ j, j < i → G r j = x) → FR [r] G0 G → x_Fin xFL G →
    X mJ7_fill_53178 0 0 0 (qV L fun G' => (∀ j, j < N → G' r j = x) ∧ FR [r] G0 G' ∧ x_Fin xFL G') 5 [some (vR r), some (vI x), some (vI i), some (vI N)] [] L G 0 0 := by
  intro k
  induction k with
  | zero =>
    intro i G hi h1 h2 hF
    have hi : i = N := by omega
    subst hi
    refine x_iloadn (pc := 5) dJ7_fill_53178_5 rfl ?_
    refine x_iloadn (pc := 6) dJ7_fill_53178_6 rfl ?_
    refine x_cge (tgt := 20) (pc := 7) dJ7_fill_53178_7 (by decide) (by omega) (fun c_7 => ?_) (fun c_7 => ?_)
    rotate_left
    · skip
      exact absurd c_7 (by omega)
    refine x_rV (pc := 20) dJ7_fill_53178_20 rfl ?_
    exact ⟨h1, h2, hF⟩
  | succ k ih =>
    intro i G hi h1 h2 hF
    refine x_iloadn (pc := 5) dJ7_fill_53178_5 rfl ?_
    refine x_iloadn (pc := 6) dJ7_fill_53178_6 rfl ?_
    refine x_cge (tgt := 20) (pc := 7) dJ7_fill_53178_7 (by decide) (by omega) (fun c_7 => ?_) (fun c_7 => ?_)
    · skip
      exact absurd c_7 (by omega)
    refine x_aloadn (pc := 10) dJ7_fill_53178_10 rfl ?_
    refine x_iloadn (pc := 11) dJ7_fill_53178_11 rfl ?_
    refine x_iloadn (pc := 12) dJ7_fill_53178_12 rfl ?_
    refine x_iastF (i) (pc := 13) dJ7_fill_53178_13 hk hr (⟨rfl, by omega, by omega⟩) hF (fun hF => ?_)
    refine x_iinc (pc := 14) dJ7_fill_53178_14 rfl (by decide) rfl ?_
    refine x_goto (tgt := 5) (pc := 17) dJ7_fill_53178_17 (by decide) ?_
    refine ih (i + 1) _ (by omega) (fun j hj => ?_) (h2.up (by simp)) hF
    by_cases c : j = i
    · subst c; exact x_up_s
    · rw [x_up_k c]; exact h1 j (by omega)
theorem c_fillI {r N : Nat} {x : Int} {L : List Nat} {G : Nat → Nat → Int} (hk : xK r = (13, N)) (hr : r ∈ L) (hN : N ≤ 36000) (hF : x_Fin xFL G) :
    CM yJ7_fill_53178 mJ7_fill_53178 0 0 0 [vR r, vI x] L G (qV L fun G' => (∀ j, j < N → G' r j = x) ∧ FR [r] G G' ∧ x_Fin xFL G') := by
  refine Ct.of_X (μ := mJ7_fill_53178) rfl rfl (by decide) (fun h => by cases h) (Nat.le_of_ble_eq_true rfl) rfl ?_
  refine x_iconst (pc := 0) dJ7_fill_53178_0 ?_
  refine x_istoren (pc := 1) dJ7_fill_53178_1 rfl (by decide) rfl ?_
  refine x_aloadn (pc := 2) dJ7_fill_53178_2 rfl ?_
  refine x_alen (pc := 3) dJ7_fill_53178_3 hk (by decide) hr ?_
  refine x_istoren (pc := 4) dJ7_fill_53178_4 rfl (by decide) rfl ?_
  exact l_fillI hk hr hN N 0 G (by omega) (fun j hj => absurd hj (Nat.not_lt_zero j)) FR.rf hF
/-! a side: object r, its items r + 1, times r + 2, lengths r + 3, starts r + 4 -/
def xSd (r : Nat) : Prop := (∃ k, k < 8 ∧ r = 6 + 5 * k) ∨ (∃ k, k < 4 ∧ r = 101 + 7 * k)
theorem xSd.all {P : Nat → Prop} {r : Nat} (h : xSd r) (hp : ∀ k, k < 8 → P (6 + 5 * k)) (hq : ∀ k, k < 4 → P (101 + 7 * k)) : P r := by
  rcases h with ⟨k, h1, rfl⟩ | ⟨k, h1, rfl⟩
  · exact hp k h1
  · exact hq k h1
theorem sd_k {r : Nat} (h : xSd r) : xK r = (8, 0) ∧ xK (r + 1) = (13, 12) ∧ xK (r + 2) = (13, 4) ∧ xK (r + 3) = (13, 4) ∧ xK (r + 4) = (13, 4) := h.all (P := fun r => xK r = (8, 0) ∧ xK (r + 1) = (13, 12) ∧ xK (r + 2) = (13, 4) ∧ xK (r + 3) = (13, 4) ∧ xK (r + 4) = (13, 4)) (by decide +kernel) (by decide +kernel)
theorem sd_b {r : Nat} (h : xSd r) : 6 ≤ r ∧ r < 127 := by rcases h with ⟨k, h1, rfl⟩ | ⟨k, h1, rfl⟩ <;> omega
theorem sd_m {r : Nat} {L : List Nat} (h : xSd r) (hL : x_SL L) (i : Nat) (hi : i ≤ 4) : r + i ∈ L := by have := sd_b h; exact hL _ (by omega) (by omega)
theorem sd_fl {r : Nat} (h : xSd r) : (r, 0, r + 1) ∈ xFL ∧ (r, 1, r + 2) ∈ xFL ∧ (r, 2, r + 3) ∈ xFL ∧ (r, 3, r + 4) ∈ xFL := by
  have e := h.all (P := fun r => (decide ((r, 0, r + 1) ∈ xFL) && decide ((r, 1, r + 2) ∈ xFL) && decide ((r, 2, r + 3) ∈ xFL) && decide ((r, 3, r + 4) ∈ xFL)) = true) (by decide +kernel) (by decide +kernel)
  simp only [Bool.and_eq_true, decide_eq_true_eq] at e
  exact ⟨e.1.1.1, e.1.1.2, e.1.2, e.2⟩
/-- its n items are row q of I -/
def zlc (I : Nat → Nat → Nat) (q : Nat) : Nat → Nat
  | 0 => 0
  | j + 1 => zlc I q j + (if I q j < 4 then 1 else 0)
theorem zlc_le {I : Nat → Nat → Nat} {q : Nat} : ∀ j, zlc I q j ≤ j
  | 0 => Nat.le_refl _
  | j + 1 => by have := zlc_le (I := I) (q := q) j; rw [zlc]; split <;> omega
theorem zct_cg {I J : Nat → Nat → Nat} {q p u : Nat} : ∀ n, (∀ j, j < n → J p j = I q j) → zct J p u n = zct I q u n
  | 0, _ => rfl
  | n + 1, h => by rw [zct, zct, zct_cg n (fun j hj => h j (by omega)), h n (by omega)]
theorem zlc_cg {I J : Nat → Nat → Nat} {q p : Nat} : ∀ n, (∀ j, j < n → J p j = I q j) → zlc J p n = zlc I q n
  | 0, _ => rfl
  | n + 1, h => by rw [zlc, zlc, zlc_cg n (fun j hj => h j (by omega)), h n (by omega)]
def cSd (r n : Nat) (I : Nat → Nat → Nat) (q : Nat) (G : Nat → Nat → Int) : Prop := G r 4 = n ∧ n ≤ 12 ∧ (∀ j, j < n → G (r + 1) j = I q j ∧ zV (I q j)) ∧ (∀ u, u < 4 → G (r + 2) u = zct I q u n) ∧ G r 5 = zlc I q n
theorem cSd.cg {r n : Nat} {I J : Nat → Nat → Nat} {q p : Nat} {G G' : Nat → Nat → Int} (h : cSd r n I q G) (h0 : ∀ j, G' r j = G r j) (h1 : ∀ j, G' (r + 1) j = G (r + 1) j) (h2 : ∀ j, G' (r + 2) j = G (r + 2) j) (hJ : ∀ j, j < n → J p j = I q j) : cSd r n J p G' := by
  obtain ⟨a1, a2, a3, a4, a5⟩ := h
  refine ⟨by rw [h0]; exact a1, a2, fun j hj => by rw [h1, hJ j hj]; exact a3 j hj, fun u hu => by rw [h2, zct_cg n hJ]; exact a4 u hu, by rw [h0, zlc_cg n hJ]; exact a5⟩
theorem cSd.FR {r n : Nat} {I : Nat → Nat → Nat} {q : Nat} {S : List Nat} {G G' : Nat → Nat → Int} (h : cSd r n I q G) (hR : FR S G G') (h0 : r ∉ S) (h1 : r + 1 ∉ S) (h2 : r + 2 ∉ S) : cSd r n I q G' :=
  h.cg (fun j => by rw [hR _ h0]) (fun j => by rw [hR _ h1]) (fun j => by rw [hR _ h2]) (fun _ _ => rfl)
theorem sd_f0 {r : Nat} {G : Nat → Nat → Int} (h : xSd r) (hF : x_Fin xFL G) : G r 0 = ((r + 1 : Nat) : Int) := hF _ (sd_fl h).1
theorem sd_f1 {r : Nat} {G : Nat → Nat → Int} (h : xSd r) (hF : x_Fin xFL G) : G r 1 = ((r + 2 : Nat) : Int) := hF _ (sd_fl h).2.1
theorem sd_f2 {r : Nat} {G : Nat → Nat → Int} (h : xSd r) (hF : x_Fin xFL G) : G r 2 = ((r + 3 : Nat) : Int) := hF _ (sd_fl h).2.2.1
theorem sd_f3 {r : Nat} {G : Nat → Nat → Int} (h : xSd r) (hF : x_Fin xFL G) : G r 3 = ((r + 4 : Nat) : Int) := hF _ (sd_fl h).2.2.2
theorem c_Sd_length {r n : Nat} {I : Nat → Nat → Nat} {q : Nat} {L : List Nat} {G : Nat → Nat → Int} (h : xSd r) (hL : x_SL L) (hS : cSd r n I q G) :
    CM yX8_length mX8_length 0 0 0 [vR r] L G (qI L fun x G' => x = n ∧ G' = G) := by
  refine Ct.of_X (μ := mX8_length) rfl rfl (by decide) (fun h => by cases h) (Nat.le_of_ble_eq_true rfl) rfl ?_
  refine x_aloadn (pc := 0) dX8_length_0 rfl ?_
  refine x_getI (pc := 1) dX8_length_1 fl_X8_24 (sd_k h).1 (sd_m h hL 0 (by decide)) ?_
  refine x_rI (pc := 4) dX8_length_4 rfl ?_
  exact ⟨hS.1, rfl⟩
theorem c_Sd_at {r n : Nat} {I : Nat → Nat → Nat} {q : Nat} {a : Int} {L : List Nat} {G : Nat → Nat → Int} (h : xSd r) (hL : x_SL L) (hF : x_Fin xFL G) (hS : cSd r n I q G) (ha : -2147483648 ≤ a ∧ a < 2147483648) :
    CM yX8_at mX8_at 0 0 0 [vR r, vI a] L G (qI L fun x G' => x = (if 0 ≤ a ∧ a < n then (I q a.toNat : Int) else -1) ∧ G' = G) := by
  obtain ⟨a1, a2, a3, a4, a5⟩ := hS
  refine Ct.of_X (μ := mX8_at) rfl rfl (by decide) (fun h => by cases h) (Nat.le_of_ble_eq_true rfl) rfl ?_
  refine x_iloadn (pc := 0) dX8_at_0 rfl ?_
  refine x_ilt (tgt := 21) (pc := 1) dX8_at_1 (by decide) (by omega) (fun c_1 => ?_) (fun c_1 => ?_)
  · skip
    refine x_iconst (pc := 21) dX8_at_21 ?_
    refine x_rI (pc := 22) dX8_at_22 rfl ?_
    exact ⟨by first | (rw [if_pos (by omega)]; exact (a3 _ (by omega)).1) | (rw [if_neg (by omega)]), rfl⟩
  · skip
    refine x_iloadn (pc := 4) dX8_at_4 rfl ?_
    refine x_aloadn (pc := 5) dX8_at_5 rfl ?_
    refine x_getI (pc := 6) dX8_at_6 fl_X8_24 (sd_k h).1 (sd_m h hL 0 (by decide)) ?_
    refine x_cge (tgt := 21) (pc := 9) dX8_at_9 (by decide) (by omega) (fun c_9 => ?_) (fun c_9 => ?_)
    · skip
      refine x_iconst (pc := 21) dX8_at_21 ?_
      refine x_rI (pc := 22) dX8_at_22 rfl ?_
      exact ⟨by first | (rw [if_pos (by omega)]; exact (a3 _ (by omega)).1) | (rw [if_neg (by omega)]), rfl⟩
    · skip
      refine x_aloadn (pc := 12) dX8_at_12 rfl ?_
      refine x_getR (r + 1) (pc := 13) dX8_at_13 fl_X8_9 (sd_k h).1 (sd_m h hL 0 (by decide)) (sd_f0 h hF) ?_
      refine x_iloadn (pc := 16) dX8_at_16 rfl ?_
      refine x_iald (a.toNat) (pc := 17) dX8_at_17 (sd_k h).2.1 (sd_m h hL 1 (by decide)) (⟨by omega, by omega, by decide⟩) ?_
      refine x_goto (tgt := 22) (pc := 18) dX8_at_18 (by decide) ?_
      refine x_rI (pc := 22) dX8_at_22 rfl ?_
      exact ⟨by first | (rw [if_pos (by omega)]; exact (a3 _ (by omega)).1) | (rw [if_neg (by omega)]), rfl⟩
theorem c_Sd_timesOf {r n u : Nat} {I : Nat → Nat → Nat} {q : Nat} {L : List Nat} {G : Nat → Nat → Int} (h : xSd r) (hL : x_SL L) (hF : x_Fin xFL G) (hS : cSd r n I q G) (hu : u < 4) :
    CM yX8_timesOf mX8_timesOf 1 0 0 [vR r, vI u] L G (qI L fun x G' => x = zct I q u n ∧ G' = G) := by
  obtain ⟨a1, a2, a3, a4, a5⟩ := hS
  refine Ct.of_X (μ := mX8_timesOf) rfl rfl (by decide) (fun h => by cases h) (Nat.le_of_ble_eq_true rfl) rfl ?_
  refine x_iloadn (pc := 0) dX8_timesOf_0 rfl ?_
  refine x_cSNI (pc := 1) dX8_timesOf_1 lk_X8_45 (c_ts_none (by omega)) (⟨by decide, by decide⟩) (Nat.le_of_ble_eq_true rfl) rfl ?_
  rintro x G' ⟨rfl, rfl⟩
  refine x_ieq (tgt := 11) (pc := 4) dX8_timesOf_4 (by decide) (by split <;> omega) (fun c_4 => ?_) (fun c_4 => ?_)
  rotate_left
  · skip
    exact absurd (if_pos (by omega)) c_4
  refine x_aloadn (pc := 11) dX8_timesOf_11 rfl ?_
  refine x_getR (r + 2) (pc := 12) dX8_timesOf_12 fl_X8_15 (sd_k h).1 (sd_m h hL 0 (by decide)) (sd_f1 h hF) ?_
  refine x_iloadn (pc := 15) dX8_timesOf_15 rfl ?_
  refine x_iald _ (pc := 16) dX8_timesOf_16 (sd_k h).2.2.1 (sd_m h hL 2 (by decide)) (⟨rfl, by omega, by decide⟩) ?_
  refine x_rI (pc := 17) dX8_timesOf_17 rfl ?_
  exact ⟨a4 u hu, rfl⟩
theorem c_Sd_empty {r : Nat} (I : Nat → Nat → Nat) (q : Nat) {L : List Nat} {G : Nat → Nat → Int} (h : xSd r) (hL : x_SL L) (hF : x_Fin xFL G) :
    CM yX8_empty mX8_empty 1 0 0 [vR r] L G (qV L fun G' => cSd r 0 I q G' ∧ FR [r, r + 2] G G' ∧ x_Fin xFL G') := by
  refine Ct.of_X (μ := mX8_empty) rfl rfl (by decide) (fun h => by cases h) (Nat.le_of_ble_eq_true rfl) rfl ?_
  refine x_aloadn (pc := 0) dX8_empty_0 rfl ?_
  refine x_iconst (pc := 1) dX8_empty_1 ?_
  refine x_putIF (pc := 2) dX8_empty_2 fp_X8_24 (sd_k h).1 (sd_m h hL 0 (by decide)) hF (fun hF => ?_)
  refine x_aloadn (pc := 5) dX8_empty_5 rfl ?_
  refine x_iconst (pc := 6) dX8_empty_6 ?_
  refine x_putIF (pc := 7) dX8_empty_7 fp_X8_28 (sd_k h).1 (sd_m h hL 0 (by decide)) hF (fun hF => ?_)
  refine x_aloadn (pc := 10) dX8_empty_10 rfl ?_
  refine x_getR (r + 2) (pc := 11) dX8_empty_11 fl_X8_15 (sd_k h).1 (sd_m h hL 0 (by decide)) (sd_f1 h hF) ?_
  refine x_iconst (pc := 14) dX8_empty_14 ?_
  refine x_cSV (pc := 15) dX8_empty_15 lk_X8_31 (c_fillI (sd_k h).2.2.1 (sd_m h hL 2 (by decide)) (by decide) hF) (⟨by decide, by decide⟩) (Nat.le_of_ble_eq_true rfl) rfl ?_
  rintro G' ⟨e1, e2, hF⟩
  refine x_rV (pc := 18) dX8_empty_18 rfl ?_
  refine ⟨⟨?_, by decide, fun j hj => absurd hj (Nat.not_lt_zero j), fun u hu => e1 u hu, ?_⟩, FR.tr ((FR.rf.up (by simp)).up (by simp)) (e2.mono (by simp)), hF⟩
  · rw [e2 r (by simp), x_up_k (by decide), x_up_s]; rfl
  · rw [e2 r (by simp), x_up_s]; rfl
theorem c_Sd_add {r n v p : Nat} {I J : Nat → Nat → Nat} {q : Nat} {L : List Nat} {G : Nat → Nat → Int} (h : xSd r) (hL : x_SL L) (hF : x_Fin xFL G) (hS : cSd r n I q G) (hn : n < 12) (hv : zV v) (hJ : ∀ j, j < n → J p j = I q j) (hJn : J p n = v) :
    CM yX8_add mX8_add 1 0 0 [vR r, vI v] L G (qV L fun G' => cSd r (n + 1) J p G' ∧ FR [r, r + 1, r + 2] G G' ∧ x_Fin xFL G') := by
  obtain ⟨a1, a2, a3, a4, a5⟩ := hS
  obtain ⟨v1, v2⟩ := hv
  refine Ct.of_X (μ := mX8_add) rfl rfl (by decide) (fun h => by cases h) (Nat.le_of_ble_eq_true rfl) rfl ?_
  refine x_aloadn (pc := 0) dX8_add_0 rfl ?_
  refine x_getI (pc := 1) dX8_add_1 fl_X8_24 (sd_k h).1 (sd_m h hL 0 (by decide)) ?_
  refine x_aloadn (pc := 4) dX8_add_4 rfl ?_
  refine x_getR (r + 1) (pc := 5) dX8_add_5 fl_X8_9 (sd_k h).1 (sd_m h hL 0 (by decide)) (sd_f0 h hF) ?_
  refine x_alen (pc := 8) dX8_add_8 (sd_k h).2.1 (by decide) (sd_m h hL 1 (by decide)) ?_
  refine x_clt (tgt := 13) (pc := 9) dX8_add_9 (by decide) (by omega) (fun c_9 => ?_) (fun c_9 => ?_)
  rotate_left
  · skip
    exact absurd c_9 (by omega)
  refine x_aloadn (pc := 13) dX8_add_13 rfl ?_
  refine x_getR (r + 1) (pc := 14) dX8_add_14 fl_X8_9 (sd_k h).1 (sd_m h hL 0 (by decide)) (sd_f0 h hF) ?_
  refine x_aloadn (pc := 17) dX8_add_17 rfl ?_
  refine x_getI (pc := 18) dX8_add_18 fl_X8_24 (sd_k h).1 (sd_m h hL 0 (by decide)) ?_
  refine x_iloadn (pc := 21) dX8_add_21 rfl ?_
  refine x_iastF (n) (pc := 22) dX8_add_22 (sd_k h).2.1 (sd_m h hL 1 (by decide)) (⟨by omega, by omega, by decide⟩) hF (fun hF => ?_)
  refine x_aloadn (pc := 23) dX8_add_23 rfl ?_
  refine x_dup (pc := 24) dX8_add_24 (fun h => by cases h) ?_
  refine x_getI (pc := 25) dX8_add_25 fl_X8_24 (sd_k h).1 (sd_m h hL 0 (by decide)) ?_
  refine x_iconst (pc := 28) dX8_add_28 ?_
  refine x_iadd (pc := 29) dX8_add_29 ?_
  refine x_putIF (pc := 30) dX8_add_30 fp_X8_24 (sd_k h).1 (sd_m h hL 0 (by decide)) hF (fun hF => ?_)
  refine x_iloadn (pc := 33) dX8_add_33 rfl ?_
  refine x_cSNI (pc := 34) dX8_add_34 lk_X8_37 (c_ts_isU (by omega)) (⟨by decide, by decide⟩) (Nat.le_of_ble_eq_true rfl) rfl ?_
  rintro x G' ⟨rfl, rfl⟩
  refine x_ieq (tgt := 56) (pc := 37) dX8_add_37 (by decide) (by split <;> omega) (fun c_37 => ?_) (fun c_37 => ?_)
  · skip
    have hv4 : v < 4 := by split at c_37 <;> omega
    refine x_aloadn (pc := 56) dX8_add_56 rfl ?_
    refine x_dup (pc := 57) dX8_add_57 (fun h => by cases h) ?_
    refine x_getI (pc := 58) dX8_add_58 fl_X8_28 (sd_k h).1 (sd_m h hL 0 (by decide)) ?_
    refine x_iconst (pc := 61) dX8_add_61 ?_
    refine x_iadd (pc := 62) dX8_add_62 ?_
    refine x_putIF (pc := 63) dX8_add_63 fp_X8_28 (sd_k h).1 (sd_m h hL 0 (by decide)) hF (fun hF => ?_)
    refine x_rV (pc := 66) dX8_add_66 rfl ?_
    refine ⟨⟨?_, by omega, fun j hj => ?_, fun u hu => ?_, ?_⟩, ?_, hF⟩
    · simp [x_up]; omega
    · by_cases c : j = n
      · subst c; refine ⟨?_, by rw [hJn]; exact ⟨v1, v2⟩⟩; rw [hJn]; simp [x_up]
      · refine ⟨?_, by rw [hJ j (by omega)]; exact (a3 j (by omega)).2⟩; rw [hJ j (by omega)]; simp [x_up, c]; exact (a3 j (by omega)).1
    · rw [zct, zct_cg n hJ, hJn]
      have := a4 u hu
      by_cases c : v = 4 + u
      · rw [if_pos c]; first | (exfalso; omega) | (subst c; have e9 : 4 + u - 4 = u := (by omega); simp [x_up, e9]; omega)
      · rw [if_neg c]; first | (have e : u ≠ v - 4 := (by omega); simp [x_up, e]; omega) | (simp [x_up]; omega)
    · rw [zlc, zlc_cg n hJ, hJn]
      first | (rw [if_pos (by omega)]; simp [x_up]; omega) | (rw [if_neg (by omega)]; simp [x_up]; omega)
    · exact ((FR.rf.up (by simp)).up (by simp)).up (by simp)
  · skip
    refine x_aloadn (pc := 40) dX8_add_40 rfl ?_
    refine x_getR (r + 2) (pc := 41) dX8_add_41 fl_X8_15 (sd_k h).1 (sd_m h hL 0 (by decide)) (sd_f1 h hF) ?_
    refine x_iloadn (pc := 44) dX8_add_44 rfl ?_
    refine x_cSNI (pc := 45) dX8_add_45 lk_X8_41 (c_ts_uOf) (⟨by decide, by decide⟩) (Nat.le_of_ble_eq_true rfl) rfl ?_
    rintro x G' ⟨rfl, rfl⟩
    have hv4 : 4 ≤ v := by split at c_37 <;> omega
    refine x_dup2 (pc := 48) dX8_add_48 (fun h => by cases h) (fun h => by cases h) ?_
    refine x_iald (v - 4) (pc := 49) dX8_add_49 (sd_k h).2.2.1 (sd_m h hL 2 (by decide)) (⟨by omega, by omega, by decide⟩) ?_
    refine x_iconst (pc := 50) dX8_add_50 ?_
    refine x_iadd (pc := 51) dX8_add_51 ?_
    refine x_iastF (v - 4) (pc := 52) dX8_add_52 (sd_k h).2.2.1 (sd_m h hL 2 (by decide)) (⟨by omega, by omega, by decide⟩) hF (fun hF => ?_)
    refine x_goto (tgt := 66) (pc := 53) dX8_add_53 (by decide) ?_
    refine x_rV (pc := 66) dX8_add_66 rfl ?_
    refine ⟨⟨?_, by omega, fun j hj => ?_, fun u hu => ?_, ?_⟩, ?_, hF⟩
    · simp [x_up]; omega
    · by_cases c : j = n
      · subst c; refine ⟨?_, by rw [hJn]; exact ⟨v1, v2⟩⟩; rw [hJn]; simp [x_up]
      · refine ⟨?_, by rw [hJ j (by omega)]; exact (a3 j (by omega)).2⟩; rw [hJ j (by omega)]; simp [x_up, c]; exact (a3 j (by omega)).1
    · rw [zct, zct_cg n hJ, hJn]
      have := a4 u hu
      by_cases c : v = 4 + u
      · rw [if_pos c]; first | (exfalso; omega) | (subst c; have e9 : 4 + u - 4 = u := (by omega); simp [x_up, e9]; omega)
      · rw [if_neg c]; first | (have e : u ≠ v - 4 := (by omega); simp [x_up, e]; omega) | (simp [x_up]; omega)
    · rw [zlc, zlc_cg n hJ, hJn]
      first | (rw [if_pos (by omega)]; simp [x_up]; omega) | (rw [if_neg (by omega)]; simp [x_up]; omega)
    · exact ((FR.rf.up (by simp)).up (by simp)).up (by simp)

