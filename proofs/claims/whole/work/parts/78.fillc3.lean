/-! the class: how many words, which letters -/
section XFW
variable {m : Nat} {S : Nat → Nat} {I : Nat → Nat → Nat} {z lo hi mk : Nat → Nat} {L : List Nat}
noncomputable def zF (m : Nat) (S : Nat → Nat) (I : Nat → Nat → Nat) (z : Nat → Nat) : Nat → Nat := zgm (zE m S I z)
noncomputable def zA (m : Nat) (S : Nat → Nat) (I : Nat → Nat → Nat) (z mk : Nat → Nat) : Nat → Nat := zan (zE m S I z) (zba z mk)
/-- the classes as the object holds them -/
def cSw (m : Nat) (S : Nat → Nat) (I : Nat → Nat → Nat) (z mk : Nat → Nat) (G : Nat → Nat → Int) : Prop := ∃ M, cAl 56 (3 + zbg z 4) (zF m S I z) M G ∧ ∀ i, i < 3 + zbg z 4 → zF m S I z i = i → M i = zA m S I z mk i
theorem cSv.sw {G : Nat → Nat → Int} (h : cSv m S I z mk G) : cSw m S I z mk G := by
  obtain ⟨f, M, ⟨a1, a2, a3, a4⟩, h2⟩ := h
  have e : ∀ i, f i = zF m S I z i := fun i => h2.1.gm i
  refine ⟨M, ⟨a1, a2, fun i hi => ?_, a4⟩, fun i hi w => h2.2.1 i hi (by rw [e]; exact w)⟩
  rw [← e]; exact a3 i hi
theorem cSw.at {G : Nat → Nat → Int} (h : cSw m S I z mk G) {i : Nat} (hi : i < 3 + zbg z 4) : G 57 i = zF m S I z i ∧ zF m S I z i ≤ i := by
  obtain ⟨M, ⟨a1, a2, a3, a4⟩, h2⟩ := h
  exact a3 i hi
theorem zcw_le {f a : Nat → Nat} (ha : ∀ x, a x < 8) : ∀ n, zcw f a n ≤ 3 ^ n
  | 0 => Nat.le_refl _
  | n + 1 => by
    have ih := zcw_le ha n (f := f)
    rw [zcw, Nat.pow_succ]
    have h1 := zpop_3 _ (ha (3 + n))
    refine Nat.mul_le_mul ih ?_
    split <;> omega
theorem c_al_first {G : Nat → Nat → Int} (hL : x_SL L) (hF : x_Fin xFL G) (h : cSw m S I z mk G) {i : Nat} (hi : i < 3 + zbg z 4) :
    CM yX0_first mX0_first 0 0 0 [vR 56, vI i] L G (qI L fun x G' => x = zF m S I z i ∧ G' = G) := by
  have h1 := h.at hi
  obtain ⟨M, ⟨a1, a2, a3, a4⟩, h2⟩ := h
  have e := c_Al_first (a := (i : Int)) (Or.inl rfl) hL hF a1 a2 (by omega)
  have e2 : (if 0 ≤ (i : Int) ∧ (i : Int) < (3 + zbg z 4 : Nat) then G (56 + 1) (i : Int).toNat else -1) = zF m S I z i := by
    rw [if_pos (by omega), Int.toNat_natCast]; exact h1.1
  rw [e2] at e
  exact e
theorem c_al_letters {G : Nat → Nat → Int} (hL : x_SL L) (hF : x_Fin xFL G) (h : cSw m S I z mk G) {i : Nat} (hi : i < 3 + zbg z 4) (hl : zF m S I z i = i) :
    CM yX0_letters mX0_letters 0 0 0 [vR 56, vI i] L G (qI L fun x G' => x = zA m S I z mk i ∧ G' = G) := by
  obtain ⟨M, ha, h2⟩ := h
  have e := c_Al_letters (a := (i : Int)) (Or.inl rfl) hL hF ha (by have := ha.2.1; omega)
  have e2 : (if 0 ≤ (i : Int) ∧ (i : Int) < (3 + zbg z 4 : Nat) then (M (i : Int).toNat : Int) else 0) = zA m S I z mk i := by
    rw [if_pos (by omega), Int.toNat_natCast, h2 i hi hl]
  rw [e2] at e
  exact e
theorem zA_lt (i : Nat) : zA m S I z mk i < 8 := zan_lt _ _ _
theorem l_fi_ways {G : Nat → Nat → Int} (hL : x_SL L) (hF : x_Fin xFL G) (hz : cFL z G) (h : cSw m S I z mk G) :
    ∀ (k p : Nat), p + k = zbg z 4 → X mX4_ways 1 0 0 (qL L fun x G' => x = zcw (zF m S I z) (zA m S I z mk) (zbg z 4) ∧ G' = G) 4 [some (vR 55), some (vL (zcw (zF m S I z) (zA m S I z mk) p)), none, some (vI ((3 + p : Nat) : Int))] [] L G 0 0 := by
  have hn := hz.1
  have hN := zbg_4 (fun u hu => (hz.2 u hu).2.2) 4 (Nat.le_refl _)
  intro k
  induction k with
  | zero =>
    intro p hp
    have hp : p = zbg z 4 := by omega
    subst hp
    refine x_iloadn (pc := 4) dX4_ways_4 rfl ?_
    refine x_aloadn (pc := 5) dX4_ways_5 rfl ?_
    refine x_getI (pc := 6) dX4_ways_6 fl_X4_34 k_55 (hL 55 (by decide) (by decide)) ?_
    refine x_cge (tgt := 45) (pc := 9) dX4_ways_9 (by decide) (by omega) (fun c_9 => ?_) (fun c_9 => ?_)
    rotate_left
    · skip
      exact absurd c_9 (by omega)
    refine x_lloadn (pc := 45) dX4_ways_45 rfl ?_
    refine x_rL (pc := 46) dX4_ways_46 rfl ?_
    exact ⟨rfl, rfl⟩
  | succ k ih =>
    intro p hp
    have h1 := h.at (i := 3 + p) (by omega)
    have hA := zA_lt (m := m) (S := S) (I := I) (z := z) (mk := mk) (3 + p)
    have hp3 := zpop_3 _ hA
    have hst : zcw (zF m S I z) (zA m S I z mk) (p + 1) = zcw (zF m S I z) (zA m S I z mk) p * (if zF m S I z (3 + p) = 3 + p then zpop (zA m S I z mk (3 + p)) else 1) := rfl
    have ih2 := ih (p + 1) (by omega)
    rw [hst] at ih2
    by_cases c : zF m S I z (3 + p) = 3 + p
    · rw [if_pos c] at ih2
      refine x_iloadn (pc := 4) dX4_ways_4 rfl ?_
      refine x_aloadn (pc := 5) dX4_ways_5 rfl ?_
      refine x_getI (pc := 6) dX4_ways_6 fl_X4_34 k_55 (hL 55 (by decide) (by decide)) ?_
      refine x_cge (tgt := 45) (pc := 9) dX4_ways_9 (by decide) (by omega) (fun c_9 => ?_) (fun c_9 => ?_)
      · skip
        exact absurd c_9 (by omega)
      refine x_aloadn (pc := 12) dX4_ways_12 rfl ?_
      refine x_getR (56) (pc := 13) dX4_ways_13 fl_X4_12 k_55 (hL 55 (by decide) (by decide)) (f_55_0 hF) ?_
      refine x_iloadn (pc := 16) dX4_ways_16 rfl ?_
      refine x_cVI (pc := 17) dX4_ways_17 lk_X4_96 (c_al_first hL hF h (i := 3 + p) (by omega)) k_56 ⟨by decide, rfl⟩ (hL 56 (by decide) (by decide)) (⟨by decide, by decide⟩) (Nat.le_of_ble_eq_true rfl) rfl ?_
      rintro x G' ⟨rfl, rfl⟩
      refine x_iloadn (pc := 20) dX4_ways_20 rfl ?_
      refine x_cne (tgt := 39) (pc := 21) dX4_ways_21 (by decide) (by omega) (fun c_21 => ?_) (fun c_21 => ?_)
      · skip
        exact absurd c_21 (by omega)
      refine x_lloadn (pc := 24) dX4_ways_24 rfl ?_
      refine x_aloadn (pc := 25) dX4_ways_25 rfl ?_
      refine x_getR (56) (pc := 26) dX4_ways_26 fl_X4_12 k_55 (hL 55 (by decide) (by decide)) (f_55_0 hF) ?_
      refine x_iloadn (pc := 29) dX4_ways_29 rfl ?_
      refine x_cVI (pc := 30) dX4_ways_30 lk_X4_99 (c_al_letters hL hF h (i := 3 + p) (by omega) c) k_56 ⟨by decide, rfl⟩ (hL 56 (by decide) (by decide)) (⟨by decide, by decide⟩) (Nat.le_of_ble_eq_true rfl) rfl ?_
      rintro x G' ⟨rfl, rfl⟩
      refine x_cSI (pc := 33) dX4_ways_33 lk_X4_102 (c_bitCount (a := zA m S I z mk (3 + p)) (by omega)) (⟨by decide, by decide⟩) (Nat.le_of_ble_eq_true rfl) rfl ?_
      rintro x G' ⟨rfl, rfl⟩
      refine x_i2l (pc := 36) dX4_ways_36 (by omega) ?_
      refine x_lmul (pc := 37) dX4_ways_37 ?_
      refine x_lstoren (pc := 38) dX4_ways_38 rfl (by decide) rfl ?_
      refine x_iinc (pc := 39) dX4_ways_39 rfl (by decide) rfl ?_
      refine x_goto (tgt := 4) (pc := 42) dX4_ways_42 (by decide) ?_
      rw [show ((zcw (zF m S I z) (zA m S I z mk) p : Nat) : Int) * ((zpop (zA m S I z mk (3 + p)) : Nat) : Int) = ((zcw (zF m S I z) (zA m S I z mk) p * zpop (zA m S I z mk (3 + p)) : Nat) : Int) by simp]
      exact ih2
    · rw [if_neg c, Nat.mul_one] at ih2
      refine x_iloadn (pc := 4) dX4_ways_4 rfl ?_
      refine x_aloadn (pc := 5) dX4_ways_5 rfl ?_
      refine x_getI (pc := 6) dX4_ways_6 fl_X4_34 k_55 (hL 55 (by decide) (by decide)) ?_
      refine x_cge (tgt := 45) (pc := 9) dX4_ways_9 (by decide) (by omega) (fun c_9 => ?_) (fun c_9 => ?_)
      · skip
        exact absurd c_9 (by omega)
      refine x_aloadn (pc := 12) dX4_ways_12 rfl ?_
      refine x_getR (56) (pc := 13) dX4_ways_13 fl_X4_12 k_55 (hL 55 (by decide) (by decide)) (f_55_0 hF) ?_
      refine x_iloadn (pc := 16) dX4_ways_16 rfl ?_
      refine x_cVI (pc := 17) dX4_ways_17 lk_X4_96 (c_al_first hL hF h (i := 3 + p) (by omega)) k_56 ⟨by decide, rfl⟩ (hL 56 (by decide) (by decide)) (⟨by decide, by decide⟩) (Nat.le_of_ble_eq_true rfl) rfl ?_
      rintro x G' ⟨rfl, rfl⟩
      refine x_iloadn (pc := 20) dX4_ways_20 rfl ?_
      refine x_cne (tgt := 39) (pc := 21) dX4_ways_21 (by decide) (by omega) (fun c_21 => ?_) (fun c_21 => ?_)
      rotate_left
      · skip
        exact absurd c_21 (by omega)
      refine x_iinc (pc := 39) dX4_ways_39 rfl (by decide) rfl ?_
      refine x_goto (tgt := 4) (pc := 42) dX4_ways_42 (by decide) ?_
      exact ih2
theorem c_fi_ways {G : Nat → Nat → Int} (hL : x_SL L) (hF : x_Fin xFL G) (hz : cFL z G) (h : cSw m S I z mk G) :
    CM yX4_ways mX4_ways 1 0 0 [vR 55] L G (qL L fun x G' => x = zcw (zF m S I z) (zA m S I z mk) (zbg z 4) ∧ G' = G) := by
  refine Ct.of_X (μ := mX4_ways) rfl rfl (by decide) (fun h => by cases h) (Nat.le_of_ble_eq_true rfl) rfl ?_
  refine x_lconst (x := 1) (pc := 0) dX4_ways_0 (by decide) ?_
  refine x_lstoren (pc := 1) dX4_ways_1 rfl (by decide) rfl ?_
  refine x_iconst (pc := 2) dX4_ways_2 ?_
  refine x_istoren (pc := 3) dX4_ways_3 rfl (by decide) rfl ?_
  exact l_fi_ways hL hF hz h (zbg z 4) 0 (by omega)
/-! the letter that so many are ahead of -/
def zlaf (a : Nat) (k : Int) : Nat → Nat → Int
  | 0, _ => -1
  | r + 1, l => if zbt a l = 1 ∧ (zps a l : Int) = k then (l : Int) else zlaf a k r (l + 1)
def zla (a : Nat) (k : Int) : Int := zlaf a k 3 0
theorem zand_ps : ∀ a, a < 8 → ∀ l, l < 3 → zpop (a &&& (2 ^ l - 1)) = zps a l ∧ a &&& (2 ^ l - 1) < 8 := by decide
theorem l_fi_la {a : Nat} {k : Int} {G : Nat → Nat → Int} (ha : a < 8) (hk : -2147483648 ≤ k ∧ k < 2147483648) :
    ∀ (r l : Nat), l + r = 3 → X mX4_letterAfter 1 0 0 (qI L fun x G' => x = zlaf a k r l ∧ G' = G) 2 [some (vI a), some (vI k), some (vI l)] [] L G 0 0 := by
  intro r
  induction r with
  | zero =>
    intro l hl
    have hl : l = 3 := by omega
    subst hl
    refine x_iloadn (pc := 2) dX4_letterAfter_2 rfl ?_
    refine x_iconst (pc := 3) dX4_letterAfter_3 ?_
    refine x_cge (tgt := 38) (pc := 4) dX4_letterAfter_4 (by decide) (by omega) (fun c_4 => ?_) (fun c_4 => ?_)
    rotate_left
    · skip
      exact absurd c_4 (by decide)
    refine x_iconst (pc := 38) dX4_letterAfter_38 ?_
    refine x_rI (pc := 39) dX4_letterAfter_39 rfl ?_
    exact ⟨rfl, rfl⟩
  | succ r ih =>
    intro l hl
    have hsh : (a : Int) / 2 ^ l = ((a / 2 ^ l : Nat) : Int) := by simp
    have hbt : ((a / 2 ^ l : Nat) : Int) % 2 = (zbt a l : Nat) := by unfold zbt; omega
    have hb01 := zbt_01 a l
    have hp2 : 1 ≤ 2 ^ l := Nat.pow_pos (by decide)
    have hp8 : 2 ^ l < 8 := by rcases (show l = 0 ∨ l = 1 ∨ l = 2 by omega) with rfl | rfl | rfl <;> decide
    have h1 : (1 : Int) * 2 ^ l - 1 = ((2 ^ l - 1 : Nat) : Int) := by
      have e : (1 : Int) * 2 ^ l = ((2 ^ l : Nat) : Int) := by simp
      rw [e]; omega
    obtain ⟨g1, g2⟩ := zand_ps a ha l (by omega)
    have hst : zlaf a k (r + 1) l = if zbt a l = 1 ∧ (zps a l : Int) = k then (l : Int) else zlaf a k r (l + 1) := rfl
    have hps8 : zps a l ≤ 3 := by rw [← g1]; exact zpop_3 _ g2
    have key := ih (l + 1) (by omega)
    by_cases c : zbt a l = 1
    · skip
      refine x_iloadn (pc := 2) dX4_letterAfter_2 rfl ?_
      refine x_iconst (pc := 3) dX4_letterAfter_3 ?_
      refine x_cge (tgt := 38) (pc := 4) dX4_letterAfter_4 (by decide) (by omega) (fun c_4 => ?_) (fun c_4 => ?_)
      · skip
        exact absurd c_4 (by omega)
      refine x_iloadn (pc := 7) dX4_letterAfter_7 rfl ?_
      refine x_iloadn (pc := 8) dX4_letterAfter_8 rfl ?_
      refine x_ishr (pc := 9) dX4_letterAfter_9 l rfl (by omega) (by omega) ?_
      refine x_iconst (pc := 10) dX4_letterAfter_10 ?_
      refine x_iandm (pc := 11) dX4_letterAfter_11 1 2 (by decide) (by decide) (by decide) ?_
      rw [hsh, hbt]
      refine x_iconst (pc := 12) dX4_letterAfter_12 ?_
      refine x_cne (tgt := 32) (pc := 13) dX4_letterAfter_13 (by decide) (by omega) (fun c_13 => ?_) (fun c_13 => ?_)
      · skip
        exact absurd (by omega) c_13
      refine x_iloadn (pc := 16) dX4_letterAfter_16 rfl ?_
      refine x_iconst (pc := 17) dX4_letterAfter_17 ?_
      refine x_iloadn (pc := 18) dX4_letterAfter_18 rfl ?_
      refine x_ishl (pc := 19) dX4_letterAfter_19 l rfl (by omega) ?_
      refine x_iconst (pc := 20) dX4_letterAfter_20 ?_
      refine x_isub (pc := 21) dX4_letterAfter_21 ?_
      rw [h1]
      refine x_iandN (pc := 22) dX4_letterAfter_22 a (2 ^ l - 1) rfl rfl (by omega) ?_
      refine x_cSI (pc := 23) dX4_letterAfter_23 lk_X4_102 (c_bitCount (a := a &&& (2 ^ l - 1)) (by omega)) (⟨by decide, by decide⟩) (Nat.le_of_ble_eq_true rfl) rfl ?_
      rintro x G' ⟨rfl, rfl⟩
      rw [g1]
      refine x_iloadn (pc := 26) dX4_letterAfter_26 rfl ?_
      refine x_cne (tgt := 32) (pc := 27) dX4_letterAfter_27 (by decide) (by omega) (fun c_27 => ?_) (fun c_27 => ?_)
      · skip
        refine x_iinc (pc := 32) dX4_letterAfter_32 rfl (by decide) rfl ?_
        refine x_goto (tgt := 2) (pc := 35) dX4_letterAfter_35 (by decide) ?_
        rw [if_neg (fun w => c_27 w.2)] at hst
        rw [hst]; exact key
      · skip
        refine x_iloadn (pc := 30) dX4_letterAfter_30 rfl ?_
        refine x_rI (pc := 31) dX4_letterAfter_31 rfl ?_
        exact ⟨by rw [hst, if_pos ⟨c, c_27⟩], rfl⟩
    · rw [if_neg (fun w => c w.1)] at hst
      rw [hst]
      refine x_iloadn (pc := 2) dX4_letterAfter_2 rfl ?_
      refine x_iconst (pc := 3) dX4_letterAfter_3 ?_
      refine x_cge (tgt := 38) (pc := 4) dX4_letterAfter_4 (by decide) (by omega) (fun c_4 => ?_) (fun c_4 => ?_)
      · skip
        exact absurd c_4 (by omega)
      refine x_iloadn (pc := 7) dX4_letterAfter_7 rfl ?_
      refine x_iloadn (pc := 8) dX4_letterAfter_8 rfl ?_
      refine x_ishr (pc := 9) dX4_letterAfter_9 l rfl (by omega) (by omega) ?_
      refine x_iconst (pc := 10) dX4_letterAfter_10 ?_
      refine x_iandm (pc := 11) dX4_letterAfter_11 1 2 (by decide) (by decide) (by decide) ?_
      rw [hsh, hbt]
      refine x_iconst (pc := 12) dX4_letterAfter_12 ?_
      refine x_cne (tgt := 32) (pc := 13) dX4_letterAfter_13 (by decide) (by omega) (fun c_13 => ?_) (fun c_13 => ?_)
      rotate_left
      · skip
        exact absurd c_13 (by omega)
      refine x_iinc (pc := 32) dX4_letterAfter_32 rfl (by decide) rfl ?_
      refine x_goto (tgt := 2) (pc := 35) dX4_letterAfter_35 (by decide) ?_
      exact key
theorem c_fi_la {a : Nat} {k : Int} {G : Nat → Nat → Int} (ha : a < 8) (hk : -2147483648 ≤ k ∧ k < 2147483648) :
    CM yX4_letterAfter mX4_letterAfter 1 0 0 [vI a, vI k] L G (qI L fun x G' => x = zla a k ∧ G' = G) := by
  refine Ct.of_X (μ := mX4_letterAfter) rfl rfl (by decide) (fun h => by cases h) (Nat.le_of_ble_eq_true rfl) rfl ?_
  refine x_iconst (pc := 0) dX4_letterAfter_0 ?_
  refine x_istoren (pc := 1) dX4_letterAfter_1 rfl (by decide) rfl ?_
  exact l_fi_la ha hk 3 0 (by omega)
theorem zla_bd (a : Nat) (k : Int) : -1 ≤ zla a k ∧ zla a k ≤ 2 := by
  unfold zla
  simp only [zlaf]
  split
  · decide
  · split
    · decide
    · split <;> decide
/-! which letters come at a rank -/
def zrt (φ : Nat → Nat) (N r : Nat) : Nat → Nat
  | 0 => r
  | k + 1 => zrt φ N r k / φ (N - 1 - k)
theorem zrt_le {φ : Nat → Nat} {N r : Nat} : ∀ k, zrt φ N r k ≤ r
  | 0 => Nat.le_refl _
  | k + 1 => Nat.le_trans (Nat.div_le_self _ _) (zrt_le k)
noncomputable def zff (m : Nat) (S : Nat → Nat) (I : Nat → Nat → Nat) (z mk : Nat → Nat) (p : Nat) : Nat := if zF m S I z (3 + p) = 3 + p then zpop (zA m S I z mk (3 + p)) else 1
/-- the letter chosen for a leading place -/
noncomputable def zch (m : Nat) (S : Nat → Nat) (I : Nat → Nat → Nat) (z mk : Nat → Nat) (r p : Nat) : Int := zla (zA m S I z mk (3 + p)) ((zrt (zff m S I z mk) (zbg z 4) r (zbg z 4 - 1 - p) % zpop (zA m S I z mk (3 + p)) : Nat) : Int)
def cChs (m : Nat) (S : Nat → Nat) (I : Nat → Nat → Nat) (z mk : Nat → Nat) (r : Nat) (G : Nat → Nat → Int) : Prop := ∀ p, p < zbg z 4 → zF m S I z (3 + p) = 3 + p → G 61 (3 + p) = zch m S I z mk r p
theorem l_fi_ch {r : Nat} {G0 : Nat → Nat → Int} (hL : x_SL L) (hz : cFL z G0) (h : cSw m S I z mk G0) (hr : r < 9223372036854775808) (hne : ∀ p, p < zbg z 4 → zF m S I z (3 + p) = 3 + p → zA m S I z mk (3 + p) ≠ 0) :
    ∀ (k q : Nat) (G : Nat → Nat → Int) (o6 : Option (Nat × Int)), q + k = zbg z 4 → (∀ p, zbg z 4 ≤ p + q → p < zbg z 4 → zF m S I z (3 + p) = 3 + p → G 61 (3 + p) = zch m S I z mk r p) → FR [61] G0 G → x_Fin xFL G →
    X mX4_choose 2 0 0 (qV L fun G' => cChs m S I z mk r G' ∧ FR [61] G0 G' ∧ x_Fin xFL G') 10 [some (vR 55), some (vL r), none, some (vL (zrt (zff m S I z mk) (zbg z 4) r q)), none, some (vI ((zbg z 4 : Int) + 2 - q)), o6] [] L G 0 0 := by
  have hN := zbg_4 (fun u hu => (hz.2 u hu).2.2) 4 (Nat.le_refl _)
  intro k
  induction k with
  | zero =>
    intro q G o6 hq hC hQ hF
    have hq : q = zbg z 4 := by omega
    subst hq
    refine x_iload (pc := 10) dX4_choose_10 rfl ?_
    refine x_iconst (pc := 12) dX4_choose_12 ?_
    refine x_clt (tgt := 102) (pc := 13) dX4_choose_13 (by decide) (by omega) (fun c_13 => ?_) (fun c_13 => ?_)
    rotate_left
    · skip
      exact absurd c_13 (by omega)
    refine x_rV (pc := 102) dX4_choose_102 rfl ?_
    exact ⟨fun p hp hl => hC p (by omega) hp hl, hQ, hF⟩
  | succ k ih =>
    intro q G o6 hq hC hQ hF
    obtain ⟨p, hp⟩ : ∃ p, p = zbg z 4 - 1 - q := ⟨_, rfl⟩
    have hz' : cFL z G := hz.FR hQ (by decide) (by decide) (by decide)
    have h' : cSw m S I z mk G := by
      obtain ⟨M, ha, h2⟩ := h
      exact ⟨M, ha.cg hQ (by decide) (by decide) (by decide), h2⟩
    have h1 := h'.at (i := 3 + p) (by omega)
    have hA := zA_lt (m := m) (S := S) (I := I) (z := z) (mk := mk) (3 + p)
    have hp3 := zpop_3 _ hA
    have hrt := zrt_le (φ := zff m S I z mk) (N := zbg z 4) (r := r) q
    have hnd : ((zbg z 4 : Int) + 2 - q) = ((3 + p : Nat) : Int) := by omega
    have hnx : ((3 + p : Nat) : Int) + -1 = (zbg z 4 : Int) + 2 - ((q + 1 : Nat) : Int) := by omega
    have hst : zrt (zff m S I z mk) (zbg z 4) r (q + 1) = zrt (zff m S I z mk) (zbg z 4) r q / zff m S I z mk p := by rw [zrt, ← hp]
    have hpq : zbg z 4 - 1 - p = q := by omega
    rw [hnd]
    by_cases c : zF m S I z (3 + p) = 3 + p
    · have hnz := zpop_nz _ hA (hne p (by omega) c)
      have hfc : zff m S I z mk p = zpop (zA m S I z mk (3 + p)) := if_pos c
      rw [hfc] at hst
      obtain ⟨R, hR⟩ : ∃ R, R = zrt (zff m S I z mk) (zbg z 4) r q := ⟨_, rfl⟩
      obtain ⟨P, hP⟩ : ∃ R, R = zpop (zA m S I z mk (3 + p)) := ⟨_, rfl⟩
      have hmod : (R : Int) % (P : Int) = ((R % P : Nat) : Int) := by simp
      have hdiv : (R : Int) / (P : Int) = ((R / P : Nat) : Int) := by simp
      have hml : R % P < P := Nat.mod_lt _ (by omega)
      have hzc : zla (zA m S I z mk (3 + p)) ((R % P : Nat) : Int) = zch m S I z mk r p := by unfold zch; rw [hpq, ← hR, ← hP]
      rw [← hR]
      rw [← hR, ← hP] at hst
      refine x_iload (pc := 10) dX4_choose_10 rfl ?_
      refine x_iconst (pc := 12) dX4_choose_12 ?_
      refine x_clt (tgt := 102) (pc := 13) dX4_choose_13 (by decide) (by omega) (fun c_13 => ?_) (fun c_13 => ?_)
      · skip
        exact absurd c_13 (by omega)
      refine x_iload (pc := 16) dX4_choose_16 rfl ?_
      refine x_aloadn (pc := 18) dX4_choose_18 rfl ?_
      refine x_getR (61) (pc := 19) dX4_choose_19 fl_X4_25 k_55 (hL 55 (by decide) (by decide)) (f_55_3 hF) ?_
      refine x_alen (pc := 22) dX4_choose_22 k_61 (by decide) (hL 61 (by decide) (by decide)) ?_
      refine x_cge (tgt := 96) (pc := 23) dX4_choose_23 (by decide) (by omega) (fun c_23 => ?_) (fun c_23 => ?_)
      · skip
        exact absurd c_23 (by omega)
      refine x_aloadn (pc := 26) dX4_choose_26 rfl ?_
      refine x_getR (56) (pc := 27) dX4_choose_27 fl_X4_12 k_55 (hL 55 (by decide) (by decide)) (f_55_0 hF) ?_
      refine x_iload (pc := 30) dX4_choose_30 rfl ?_
      refine x_cVI (pc := 32) dX4_choose_32 lk_X4_96 (c_al_first hL hF h' (i := 3 + p) (by omega)) k_56 ⟨by decide, rfl⟩ (hL 56 (by decide) (by decide)) (⟨by decide, by decide⟩) (Nat.le_of_ble_eq_true rfl) rfl ?_
      rintro x G' ⟨rfl, rfl⟩
      refine x_iload (pc := 35) dX4_choose_35 rfl ?_
      refine x_ceq (tgt := 43) (pc := 37) dX4_choose_37 (by decide) (by omega) (fun c_37 => ?_) (fun c_37 => ?_)
      rotate_left
      · skip
        exact absurd (by omega) c_37
      refine x_aloadn (pc := 43) dX4_choose_43 rfl ?_
      refine x_getR (56) (pc := 44) dX4_choose_44 fl_X4_12 k_55 (hL 55 (by decide) (by decide)) (f_55_0 hF) ?_
      refine x_iload (pc := 47) dX4_choose_47 rfl ?_
      refine x_cVI (pc := 49) dX4_choose_49 lk_X4_99 (c_al_letters hL hF h' (i := 3 + p) (by omega) c) k_56 ⟨by decide, rfl⟩ (hL 56 (by decide) (by decide)) (⟨by decide, by decide⟩) (Nat.le_of_ble_eq_true rfl) rfl ?_
      rintro x G' ⟨rfl, rfl⟩
      refine x_cSI (pc := 52) dX4_choose_52 lk_X4_102 (c_bitCount (a := zA m S I z mk (3 + p)) (by omega)) (⟨by decide, by decide⟩) (Nat.le_of_ble_eq_true rfl) rfl ?_
      rintro x G' ⟨rfl, rfl⟩
      rw [← hP]
      refine x_istore (pc := 55) dX4_choose_55 (by decide) rfl ?_
      refine x_iload (pc := 57) dX4_choose_57 rfl ?_
      refine x_ine (tgt := 65) (pc := 59) dX4_choose_59 (by decide) (by omega) (fun c_59 => ?_) (fun c_59 => ?_)
      rotate_left
      · skip
        exact absurd c_59 (by omega)
      refine x_aloadn (pc := 65) dX4_choose_65 rfl ?_
      refine x_getR (61) (pc := 66) dX4_choose_66 fl_X4_25 k_55 (hL 55 (by decide) (by decide)) (f_55_3 hF) ?_
      refine x_iload (pc := 69) dX4_choose_69 rfl ?_
      refine x_aloadn (pc := 71) dX4_choose_71 rfl ?_
      refine x_getR (56) (pc := 72) dX4_choose_72 fl_X4_12 k_55 (hL 55 (by decide) (by decide)) (f_55_0 hF) ?_
      refine x_iload (pc := 75) dX4_choose_75 rfl ?_
      refine x_cVI (pc := 77) dX4_choose_77 lk_X4_99 (c_al_letters hL hF h' (i := 3 + p) (by omega) c) k_56 ⟨by decide, rfl⟩ (hL 56 (by decide) (by decide)) (⟨by decide, by decide⟩) (Nat.le_of_ble_eq_true rfl) rfl ?_
      rintro x G' ⟨rfl, rfl⟩
      refine x_lloadn (pc := 80) dX4_choose_80 rfl ?_
      refine x_iload (pc := 81) dX4_choose_81 rfl ?_
      refine x_i2l (pc := 83) dX4_choose_83 (by omega) ?_
      refine x_lrem (pc := 84) dX4_choose_84 (by omega) ?_
      rw [hmod]
      refine x_l2i (pc := 85) dX4_choose_85 ?_
      refine x_cSI (pc := 86) dX4_choose_86 lk_X4_110 (c_fi_la (a := zA m S I z mk (3 + p)) hA (by omega)) (⟨by decide, by decide⟩) (Nat.le_of_ble_eq_true rfl) rfl ?_
      rintro x G' ⟨rfl, rfl⟩
      rw [hzc]
      refine x_iastF (3 + p) (pc := 89) dX4_choose_89 k_61 (hL 61 (by decide) (by decide)) (⟨by omega, by omega, by decide⟩) hF (fun hF => ?_)
      refine x_lloadn (pc := 90) dX4_choose_90 rfl ?_
      refine x_iload (pc := 91) dX4_choose_91 rfl ?_
      refine x_i2l (pc := 93) dX4_choose_93 (by omega) ?_
      refine x_ldiv (pc := 94) dX4_choose_94 (by omega) ?_
      rw [hdiv]
      refine x_lstoren (pc := 95) dX4_choose_95 rfl (by decide) rfl ?_
      refine x_iinc (pc := 96) dX4_choose_96 rfl (by decide) rfl ?_
      refine x_goto (tgt := 10) (pc := 99) dX4_choose_99 (by decide) ?_
      rw [hnx, ← hst]
      refine ih (q + 1) _ _ (by omega) (fun p' h1 h2 h3 => ?_) (hQ.up (by decide)) hF
      by_cases e : p' = p
      · rw [e]; exact x_up_s
      · rw [x_up_k (by omega)]; exact hC p' (by omega) h2 h3
    · have hfc : zff m S I z mk p = 1 := if_neg c
      rw [hfc, Nat.div_one] at hst
      refine x_iload (pc := 10) dX4_choose_10 rfl ?_
      refine x_iconst (pc := 12) dX4_choose_12 ?_
      refine x_clt (tgt := 102) (pc := 13) dX4_choose_13 (by decide) (by omega) (fun c_13 => ?_) (fun c_13 => ?_)
      · skip
        exact absurd c_13 (by omega)
      refine x_iload (pc := 16) dX4_choose_16 rfl ?_
      refine x_aloadn (pc := 18) dX4_choose_18 rfl ?_
      refine x_getR (61) (pc := 19) dX4_choose_19 fl_X4_25 k_55 (hL 55 (by decide) (by decide)) (f_55_3 hF) ?_
      refine x_alen (pc := 22) dX4_choose_22 k_61 (by decide) (hL 61 (by decide) (by decide)) ?_
      refine x_cge (tgt := 96) (pc := 23) dX4_choose_23 (by decide) (by omega) (fun c_23 => ?_) (fun c_23 => ?_)
      · skip
        exact absurd c_23 (by omega)
      refine x_aloadn (pc := 26) dX4_choose_26 rfl ?_
      refine x_getR (56) (pc := 27) dX4_choose_27 fl_X4_12 k_55 (hL 55 (by decide) (by decide)) (f_55_0 hF) ?_
      refine x_iload (pc := 30) dX4_choose_30 rfl ?_
      refine x_cVI (pc := 32) dX4_choose_32 lk_X4_96 (c_al_first hL hF h' (i := 3 + p) (by omega)) k_56 ⟨by decide, rfl⟩ (hL 56 (by decide) (by decide)) (⟨by decide, by decide⟩) (Nat.le_of_ble_eq_true rfl) rfl ?_
      rintro x G' ⟨rfl, rfl⟩
      refine x_iload (pc := 35) dX4_choose_35 rfl ?_
      refine x_ceq (tgt := 43) (pc := 37) dX4_choose_37 (by decide) (by omega) (fun c_37 => ?_) (fun c_37 => ?_)
      · skip
        exact absurd (by omega) c
      refine x_goto (tgt := 96) (pc := 40) dX4_choose_40 (by decide) ?_
      refine x_iinc (pc := 96) dX4_choose_96 rfl (by decide) rfl ?_
      refine x_goto (tgt := 10) (pc := 99) dX4_choose_99 (by decide) ?_
      rw [hnx, ← hst]
      refine ih (q + 1) _ _ (by omega) (fun p' h1 h2 h3 => ?_) hQ hF
      by_cases e : p' = p
      · rw [e] at h3; exact absurd h3 c
      · exact hC p' (by omega) h2 h3
theorem c_fi_choose {r : Nat} {G : Nat → Nat → Int} (hL : x_SL L) (hF : x_Fin xFL G) (hz : cFL z G) (h : cSw m S I z mk G) (hr : r < 9223372036854775808) (hne : ∀ p, p < zbg z 4 → zF m S I z (3 + p) = 3 + p → zA m S I z mk (3 + p) ≠ 0) :
    CM yX4_choose mX4_choose 2 0 0 [vR 55, vL r] L G (qV L fun G' => cChs m S I z mk r G' ∧ FR [61] G G' ∧ x_Fin xFL G') := by
  have key := l_fi_ch hL hz h hr hne (zbg z 4) 0 G none (by omega) (fun p h1 h2 => by omega) FR.rf hF
  refine Ct.of_X (μ := mX4_choose) rfl rfl (by decide) (fun h => by cases h) (Nat.le_of_ble_eq_true rfl) rfl ?_
  refine x_lloadn (pc := 0) dX4_choose_0 rfl ?_
  refine x_lstoren (pc := 1) dX4_choose_1 rfl (by decide) rfl ?_
  refine x_aloadn (pc := 2) dX4_choose_2 rfl ?_
  refine x_getI (pc := 3) dX4_choose_3 fl_X4_34 k_55 (hL 55 (by decide) (by decide)) ?_
  rw [hz.1]
  refine x_iconst (pc := 6) dX4_choose_6 ?_
  refine x_isub (pc := 7) dX4_choose_7 ?_
  refine x_istore (pc := 8) dX4_choose_8 (by decide) rfl ?_
  rw [show ((3 + zbg z 4 : Nat) : Int) - 1 = (zbg z 4 : Int) + 2 - ((0 : Nat) : Int) by omega]
  exact key
theorem c_fi_length {u : Nat} {G : Nat → Nat → Int} (hL : x_SL L) (hF : x_Fin xFL G) (hz : cFL z G) (hu : u < 4) :
    CM yX4_length mX4_length 1 0 0 [vR 55, vI u] L G (qI L fun x G' => x = z u ∧ G' = G) := by
  refine Ct.of_X (μ := mX4_length) rfl rfl (by decide) (fun h => by cases h) (Nat.le_of_ble_eq_true rfl) rfl ?_
  refine x_iloadn (pc := 0) dX4_length_0 rfl ?_
  refine x_cSNI (pc := 1) dX4_length_1 lk_X4_107 (c_ts_none (by omega)) (⟨by decide, by decide⟩) (Nat.le_of_ble_eq_true rfl) rfl ?_
  rintro x G' ⟨rfl, rfl⟩
  refine x_ieq (tgt := 11) (pc := 4) dX4_length_4 (by decide) (by split <;> omega) (fun c_4 => ?_) (fun c_4 => ?_)
  rotate_left
  · skip
    exact absurd (if_pos (by omega)) c_4
  refine x_aloadn (pc := 11) dX4_length_11 rfl ?_
  refine x_getR (59) (pc := 12) dX4_length_12 fl_X4_18 k_55 (hL 55 (by decide) (by decide)) (f_55_1 hF) ?_
  refine x_iloadn (pc := 15) dX4_length_15 rfl ?_
  refine x_iald (u) (pc := 16) dX4_length_16 k_59 (hL 59 (by decide) (by decide)) (⟨by omega, by omega, by decide⟩) ?_
  refine x_rI (pc := 17) dX4_length_17 rfl ?_
  exact ⟨(hz.2 u hu).1, rfl⟩
/-- the letter at a place, as the class tells it -/
noncomputable def zcl (m : Nat) (S : Nat → Nat) (I : Nat → Nat → Nat) (z mk : Nat → Nat) (r p : Nat) : Int := if zF m S I z (3 + p) < 3 then (zF m S I z (3 + p) : Int) else zch m S I z mk r (zF m S I z (3 + p) - 3)
theorem c_fi_chosen {u k r : Nat} {G : Nat → Nat → Int} (hL : x_SL L) (hF : x_Fin xFL G) (hz : cFL z G) (h : cSw m S I z mk G) (hC : cChs m S I z mk r G) (hu : u < 4) (hk : k < z u) :
    CM yX4_chosenLetter mX4_chosenLetter 1 0 0 [vR 55, vI u, vI k] L G (qI L fun x G' => x = zcl m S I z mk r (zbg z u + k) ∧ G' = G) := by
  have hN := zbg_4 (fun u hu => (hz.2 u hu).2.2) 4 (Nat.le_refl _)
  have hbs : zbg z (u + 1) = zbg z u + z u := rfl
  have hb4 := zbg_le (z := z) (show u + 1 ≤ 4 by omega)
  obtain ⟨g1, g2, g3⟩ := hz.2 u hu
  obtain ⟨p, hp⟩ : ∃ p, p = zbg z u + k := ⟨_, rfl⟩
  have h1 := h.at (i := 3 + p) (by omega)
  rw [← hp]
  have hid : zF m S I z (zF m S I z (3 + p)) = zF m S I z (3 + p) := (zgm_mn _).idem _
  refine Ct.of_X (μ := mX4_chosenLetter) rfl rfl (by decide) (fun h => by cases h) (Nat.le_of_ble_eq_true rfl) rfl ?_
  refine x_iloadn (pc := 0) dX4_chosenLetter_0 rfl ?_
  refine x_cSNI (pc := 1) dX4_chosenLetter_1 lk_X4_107 (c_ts_none (by omega)) (⟨by decide, by decide⟩) (Nat.le_of_ble_eq_true rfl) rfl ?_
  rintro x G' ⟨rfl, rfl⟩
  refine x_ieq (tgt := 9) (pc := 4) dX4_chosenLetter_4 (by decide) (by split <;> omega) (fun c_4 => ?_) (fun c_4 => ?_)
  rotate_left
  · skip
    exact absurd (if_pos (by omega)) c_4
  refine x_aloadn (pc := 9) dX4_chosenLetter_9 rfl ?_
  refine x_getR (56) (pc := 10) dX4_chosenLetter_10 fl_X4_12 k_55 (hL 55 (by decide) (by decide)) (f_55_0 hF) ?_
  refine x_aloadn (pc := 13) dX4_chosenLetter_13 rfl ?_
  refine x_getR (60) (pc := 14) dX4_chosenLetter_14 fl_X4_22 k_55 (hL 55 (by decide) (by decide)) (f_55_2 hF) ?_
  refine x_iloadn (pc := 17) dX4_chosenLetter_17 rfl ?_
  refine x_iald (u) (pc := 18) dX4_chosenLetter_18 k_60 (hL 60 (by decide) (by decide)) (⟨by omega, by omega, by decide⟩) ?_
  rw [g2]
  refine x_iloadn (pc := 19) dX4_chosenLetter_19 rfl ?_
  refine x_iadd (pc := 20) dX4_chosenLetter_20 ?_
  rw [show ((3 + zbg z u : Nat) : Int) + (k : Int) = ((3 + p : Nat) : Int) by omega]
  refine x_cVI (pc := 21) dX4_chosenLetter_21 lk_X4_96 (c_al_first hL hF h (i := 3 + p) (by omega)) k_56 ⟨by decide, rfl⟩ (hL 56 (by decide) (by decide)) (⟨by decide, by decide⟩) (Nat.le_of_ble_eq_true rfl) rfl ?_
  rintro x G' ⟨rfl, rfl⟩
  refine x_istoren (pc := 24) dX4_chosenLetter_24 rfl (by decide) rfl ?_
  refine x_iloadn (pc := 25) dX4_chosenLetter_25 rfl ?_
  refine x_iconst (pc := 26) dX4_chosenLetter_26 ?_
  refine x_clt (tgt := 39) (pc := 27) dX4_chosenLetter_27 (by decide) (by omega) (fun c_27 => ?_) (fun c_27 => ?_)
  · skip
    refine x_iloadn (pc := 39) dX4_chosenLetter_39 rfl ?_
    refine x_rI (pc := 40) dX4_chosenLetter_40 rfl ?_
    exact ⟨by unfold zcl; rw [if_pos (by omega)], rfl⟩
  · skip
    refine x_iloadn (pc := 30) dX4_chosenLetter_30 rfl ?_
    refine x_aloadn (pc := 31) dX4_chosenLetter_31 rfl ?_
    refine x_getR (61) (pc := 32) dX4_chosenLetter_32 fl_X4_25 k_55 (hL 55 (by decide) (by decide)) (f_55_3 hF) ?_
    refine x_alen (pc := 35) dX4_chosenLetter_35 k_61 (by decide) (hL 61 (by decide) (by decide)) ?_
    refine x_clt (tgt := 41) (pc := 36) dX4_chosenLetter_36 (by decide) (by omega) (fun c_36 => ?_) (fun c_36 => ?_)
    · skip
      refine x_aloadn (pc := 41) dX4_chosenLetter_41 rfl ?_
      refine x_getR (61) (pc := 42) dX4_chosenLetter_42 fl_X4_25 k_55 (hL 55 (by decide) (by decide)) (f_55_3 hF) ?_
      refine x_iloadn (pc := 45) dX4_chosenLetter_45 rfl ?_
      refine x_iald (3 + (zF m S I z (3 + p) - 3)) (pc := 46) dX4_chosenLetter_46 k_61 (hL 61 (by decide) (by decide)) (⟨by omega, by omega, by decide⟩) ?_
      refine x_rI (pc := 47) dX4_chosenLetter_47 rfl ?_
      refine ⟨?_, rfl⟩
      unfold zcl
      rw [if_neg (by omega)]
      exact hC _ (by omega) (by rw [show 3 + (zF m S I z (3 + p) - 3) = zF m S I z (3 + p) by omega]; exact hid)
    · skip
      refine x_iloadn (pc := 39) dX4_chosenLetter_39 rfl ?_
      refine x_rI (pc := 40) dX4_chosenLetter_40 rfl ?_
      exact ⟨by unfold zcl; rw [if_pos (by omega)], rfl⟩
noncomputable def zol (m : Nat) (S : Nat → Nat) (I : Nat → Nat → Nat) (z mk : Nat → Nat) (u k : Nat) : Int := if k < z u then (if zpop (zA m S I z mk (3 + (zbg z u + k))) = 1 then zla (zA m S I z mk (3 + (zbg z u + k))) 0 else -1) else -1
theorem c_fi_only {u k : Nat} {G : Nat → Nat → Int} (hL : x_SL L) (hF : x_Fin xFL G) (hz : cFL z G) (h : cSw m S I z mk G) (hu : u < 4) (hk : k < 8) :
    CM yX4_onlyLetter mX4_onlyLetter 2 0 0 [vR 55, vI u, vI k] L G (qI L fun x G' => x = zol m S I z mk u k ∧ G' = G) := by
  have hN := zbg_4 (fun u hu => (hz.2 u hu).2.2) 4 (Nat.le_refl _)
  have hbs : zbg z (u + 1) = zbg z u + z u := rfl
  have hb4 := zbg_le (z := z) (show u + 1 ≤ 4 by omega)
  obtain ⟨g1, g2, g3⟩ := hz.2 u hu
  obtain ⟨p, hp⟩ : ∃ p, p = zbg z u + k := ⟨_, rfl⟩
  have hzo : zol m S I z mk u k = if k < z u then (if zpop (zA m S I z mk (3 + p)) = 1 then zla (zA m S I z mk (3 + p)) 0 else -1) else -1 := by unfold zol; rw [← hp]
  have hid : zF m S I z (zF m S I z (3 + p)) = zF m S I z (3 + p) := (zgm_mn _).idem _
  have hAeq : zA m S I z mk (zF m S I z (3 + p)) = zA m S I z mk (3 + p) := (zan_eqv (zgm_sp _ _).1).symm
  have hA := zA_lt (m := m) (S := S) (I := I) (z := z) (mk := mk) (3 + p)
  have hp3 := zpop_3 _ hA
  rw [hzo]
  by_cases ck : k < z u
  · have h1 := h.at (i := 3 + p) (by omega)
    rw [if_pos ck]
    refine Ct.of_X (μ := mX4_onlyLetter) rfl rfl (by decide) (fun h => by cases h) (Nat.le_of_ble_eq_true rfl) rfl ?_
    refine x_iloadn (pc := 0) dX4_onlyLetter_0 rfl ?_
    refine x_cSNI (pc := 1) dX4_onlyLetter_1 lk_X4_107 (c_ts_none (by omega)) (⟨by decide, by decide⟩) (Nat.le_of_ble_eq_true rfl) rfl ?_
    rintro x G' ⟨rfl, rfl⟩
    refine x_ine (tgt := 17) (pc := 4) dX4_onlyLetter_4 (by decide) (by split <;> omega) (fun c_4 => ?_) (fun c_4 => ?_)
    · skip
      exact absurd (if_pos (by omega)) c_4
    refine x_iloadn (pc := 7) dX4_onlyLetter_7 rfl ?_
    refine x_aloadn (pc := 8) dX4_onlyLetter_8 rfl ?_
    refine x_getR (59) (pc := 9) dX4_onlyLetter_9 fl_X4_18 k_55 (hL 55 (by decide) (by decide)) (f_55_1 hF) ?_
    refine x_iloadn (pc := 12) dX4_onlyLetter_12 rfl ?_
    refine x_iald (u) (pc := 13) dX4_onlyLetter_13 k_59 (hL 59 (by decide) (by decide)) (⟨by omega, by omega, by decide⟩) ?_
    refine x_clt (tgt := 19) (pc := 14) dX4_onlyLetter_14 (by decide) (by omega) (fun c_14 => ?_) (fun c_14 => ?_)
    rotate_left
    · skip
      exact absurd c_14 (by omega)
    refine x_aloadn (pc := 19) dX4_onlyLetter_19 rfl ?_
    refine x_getR (56) (pc := 20) dX4_onlyLetter_20 fl_X4_12 k_55 (hL 55 (by decide) (by decide)) (f_55_0 hF) ?_
    refine x_aloadn (pc := 23) dX4_onlyLetter_23 rfl ?_
    refine x_getR (56) (pc := 24) dX4_onlyLetter_24 fl_X4_12 k_55 (hL 55 (by decide) (by decide)) (f_55_0 hF) ?_
    refine x_aloadn (pc := 27) dX4_onlyLetter_27 rfl ?_
    refine x_getR (60) (pc := 28) dX4_onlyLetter_28 fl_X4_22 k_55 (hL 55 (by decide) (by decide)) (f_55_2 hF) ?_
    refine x_iloadn (pc := 31) dX4_onlyLetter_31 rfl ?_
    refine x_iald (u) (pc := 32) dX4_onlyLetter_32 k_60 (hL 60 (by decide) (by decide)) (⟨by omega, by omega, by decide⟩) ?_
    rw [g2]
    refine x_iloadn (pc := 33) dX4_onlyLetter_33 rfl ?_
    refine x_iadd (pc := 34) dX4_onlyLetter_34 ?_
    rw [show ((3 + zbg z u : Nat) : Int) + (k : Int) = ((3 + p : Nat) : Int) by omega]
    refine x_cVI (pc := 35) dX4_onlyLetter_35 lk_X4_96 (c_al_first hL hF h (i := 3 + p) (by omega)) k_56 ⟨by decide, rfl⟩ (hL 56 (by decide) (by decide)) (⟨by decide, by decide⟩) (Nat.le_of_ble_eq_true rfl) rfl ?_
    rintro x G' ⟨rfl, rfl⟩
    refine x_cVI (pc := 38) dX4_onlyLetter_38 lk_X4_99 (c_al_letters hL hF h (i := zF m S I z (3 + p)) (by omega) hid) k_56 ⟨by decide, rfl⟩ (hL 56 (by decide) (by decide)) (⟨by decide, by decide⟩) (Nat.le_of_ble_eq_true rfl) rfl ?_
    rintro x G' ⟨rfl, rfl⟩
    rw [hAeq]
    refine x_istoren (pc := 41) dX4_onlyLetter_41 rfl (by decide) rfl ?_
    refine x_iloadn (pc := 42) dX4_onlyLetter_42 rfl ?_
    refine x_cSI (pc := 43) dX4_onlyLetter_43 lk_X4_102 (c_bitCount (a := zA m S I z mk (3 + p)) (by omega)) (⟨by decide, by decide⟩) (Nat.le_of_ble_eq_true rfl) rfl ?_
    rintro x G' ⟨rfl, rfl⟩
    refine x_iconst (pc := 46) dX4_onlyLetter_46 ?_
    refine x_cne (tgt := 58) (pc := 47) dX4_onlyLetter_47 (by decide) (by omega) (fun c_47 => ?_) (fun c_47 => ?_)
    · skip
      refine x_iconst (pc := 58) dX4_onlyLetter_58 ?_
      refine x_rI (pc := 59) dX4_onlyLetter_59 rfl ?_
      refine ⟨?_, rfl⟩
      first | (rw [if_pos (by omega)]; done) | (rw [if_neg (by omega)]; done)
    · skip
      refine x_iloadn (pc := 50) dX4_onlyLetter_50 rfl ?_
      refine x_iconst (pc := 51) dX4_onlyLetter_51 ?_
      refine x_cSI (pc := 52) dX4_onlyLetter_52 lk_X4_110 (c_fi_la (a := zA m S I z mk (3 + p)) hA (by omega)) (⟨by decide, by decide⟩) (Nat.le_of_ble_eq_true rfl) rfl ?_
      rintro x G' ⟨rfl, rfl⟩
      refine x_goto (tgt := 59) (pc := 55) dX4_onlyLetter_55 (by decide) ?_
      refine x_rI (pc := 59) dX4_onlyLetter_59 rfl ?_
      refine ⟨?_, rfl⟩
      first | (rw [if_pos (by omega)]; done) | (rw [if_neg (by omega)]; done)
  · rw [if_neg ck]
    refine Ct.of_X (μ := mX4_onlyLetter) rfl rfl (by decide) (fun h => by cases h) (Nat.le_of_ble_eq_true rfl) rfl ?_
    refine x_iloadn (pc := 0) dX4_onlyLetter_0 rfl ?_
    refine x_cSNI (pc := 1) dX4_onlyLetter_1 lk_X4_107 (c_ts_none (by omega)) (⟨by decide, by decide⟩) (Nat.le_of_ble_eq_true rfl) rfl ?_
    rintro x G' ⟨rfl, rfl⟩
    refine x_ine (tgt := 17) (pc := 4) dX4_onlyLetter_4 (by decide) (by split <;> omega) (fun c_4 => ?_) (fun c_4 => ?_)
    · skip
      exact absurd (if_pos (by omega)) c_4
    refine x_iloadn (pc := 7) dX4_onlyLetter_7 rfl ?_
    refine x_aloadn (pc := 8) dX4_onlyLetter_8 rfl ?_
    refine x_getR (59) (pc := 9) dX4_onlyLetter_9 fl_X4_18 k_55 (hL 55 (by decide) (by decide)) (f_55_1 hF) ?_
    refine x_iloadn (pc := 12) dX4_onlyLetter_12 rfl ?_
    refine x_iald (u) (pc := 13) dX4_onlyLetter_13 k_59 (hL 59 (by decide) (by decide)) (⟨by omega, by omega, by decide⟩) ?_
    refine x_clt (tgt := 19) (pc := 14) dX4_onlyLetter_14 (by decide) (by omega) (fun c_14 => ?_) (fun c_14 => ?_)
    · skip
      exact absurd (by omega) ck
    refine x_iconst (pc := 17) dX4_onlyLetter_17 ?_
    refine x_rI (pc := 18) dX4_onlyLetter_18 rfl ?_
    exact ⟨rfl, rfl⟩
end XFW

