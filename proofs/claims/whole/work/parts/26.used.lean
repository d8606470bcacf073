/-! which unknowns are in the equations, and the reference's counts -/
def zuj (I : Nat → Nat → Nat) (q : Nat) : Nat → Nat
  | 0 => 0
  | j + 1 => zuj I q j ||| (if 3 < I q j then 2 ^ (I q j - 4) else 0)
def zus (S : Nat → Nat) (I : Nat → Nat → Nat) : Nat → Nat
  | 0 => 0
  | q + 1 => zus S I q ||| zuj I q (S q)
def zub (S : Nat → Nat) (I : Nat → Nat → Nat) (m u : Nat) : Nat := zus S I m / 2 ^ u % 2
/-- how often unknown u comes among the first j items of row q -/
def zct (I : Nat → Nat → Nat) (q u : Nat) : Nat → Nat
  | 0 => 0
  | j + 1 => zct I q u j + (if I q j = 4 + u then 1 else 0)
theorem zct_le {I : Nat → Nat → Nat} {q u : Nat} : ∀ j, zct I q u j ≤ j
  | 0 => Nat.le_refl _
  | j + 1 => by have := zct_le (I := I) (q := q) (u := u) j; rw [zct]; split <;> omega
theorem zct_pos {I : Nat → Nat → Nat} {q u : Nat} : ∀ j, 0 < zct I q u j ↔ ∃ i, i < j ∧ I q i = 4 + u
  | 0 => by simp [zct]
  | j + 1 => by
    have ih := zct_pos (I := I) (q := q) (u := u) j
    rw [zct]
    constructor
    · intro h
      by_cases c : I q j = 4 + u
      · exact ⟨j, by omega, c⟩
      · rw [if_neg c] at h
        obtain ⟨i, h1, h2⟩ := ih.mp (by omega)
        exact ⟨i, by omega, h2⟩
    · rintro ⟨i, h1, h2⟩
      by_cases c : i = j
      · subst c; rw [if_pos h2]; omega
      · have := ih.mpr ⟨i, by omega, h2⟩; omega
theorem zp4 {v : Nat} (h : v ≤ 7) : 2 ^ (v - 4) < 16 := Nat.lt_of_le_of_lt (Nat.pow_le_pow_right (by decide) (by omega : v - 4 ≤ 3)) (by decide)
theorem zuj_lt {I : Nat → Nat → Nat} {q : Nat} : ∀ j, (∀ i, i < j → zV (I q i)) → zuj I q j < 16
  | 0, _ => by show 0 < 16; decide
  | j + 1, h => by
    rw [zuj]
    refine Nat.or_lt_two_pow (n := 4) (zuj_lt j (fun i hi => h i (by omega))) ?_
    split
    · exact zp4 (h j (by omega)).1
    · decide
theorem zus_lt {S : Nat → Nat} {I : Nat → Nat → Nat} : ∀ m, (∀ q, q < m → ∀ i, i < S q → zV (I q i)) → zus S I m < 16
  | 0, _ => by show 0 < 16; decide
  | m + 1, h => by
    rw [zus]
    exact Nat.or_lt_two_pow (n := 4) (zus_lt m (fun q hq => h q (by omega))) (zuj_lt (S m) (h m (by omega)))
theorem zuj_tb {I : Nat → Nat → Nat} {q u : Nat} : ∀ j, (zuj I q j).testBit u = true ↔ ∃ i, i < j ∧ I q i = 4 + u
  | 0 => by simp [zuj]
  | j + 1 => by
    have ih := zuj_tb (I := I) (q := q) (u := u) j
    rw [zuj, Nat.testBit_or, Bool.or_eq_true, ih]
    constructor
    · rintro (⟨i, h1, h2⟩ | h)
      · exact ⟨i, by omega, h2⟩
      · by_cases c : 3 < I q j
        · rw [if_pos c, Nat.testBit_two_pow] at h
          have := of_decide_eq_true h
          exact ⟨j, by omega, by omega⟩
        · rw [if_neg c, Nat.zero_testBit] at h; cases h
    · rintro ⟨i, h1, h2⟩
      by_cases c : i = j
      · subst c
        refine Or.inr ?_
        rw [if_pos (by omega), Nat.testBit_two_pow]
        exact decide_eq_true (by omega)
      · exact Or.inl ⟨i, by omega, h2⟩
theorem zus_tb {S : Nat → Nat} {I : Nat → Nat → Nat} {u : Nat} : ∀ m, (zus S I m).testBit u = true ↔ ∃ q, q < m ∧ 0 < zct I q u (S q)
  | 0 => by simp [zus]
  | m + 1 => by
    have ih := zus_tb (S := S) (I := I) (u := u) m
    rw [zus, Nat.testBit_or, Bool.or_eq_true, ih, zuj_tb, ← zct_pos]
    constructor
    · rintro (⟨q, h1, h2⟩ | h)
      · exact ⟨q, by omega, h2⟩
      · exact ⟨m, by omega, h⟩
    · rintro ⟨q, h1, h2⟩
      by_cases c : q = m
      · subst c; exact Or.inr h2
      · exact Or.inl ⟨q, by omega, h2⟩
theorem zub_iff {S : Nat → Nat} {I : Nat → Nat → Nat} {m u : Nat} : zub S I m u = 1 ↔ ∃ q, q < m ∧ 0 < zct I q u (S q) := by
  rw [← zus_tb, Nat.testBit_eq_decide_div_mod_eq, decide_eq_true_iff]; rfl
theorem zub_lt (S : Nat → Nat) (I : Nat → Nat → Nat) (m u : Nat) : zub S I m u < 2 := Nat.mod_lt _ (by decide)
abbrev pUs (L : List Nat) (G : Nat → Nat → Int) (S : Nat → Nat) (I : Nat → Nat → Nat) (m : Nat) : x_Q := qI L fun x G' => x = (zus S I (2 * m) : Int) ∧ G' = G
theorem l_mo_usedI {L : List Nat} {G : Nat → Nat → Int} {m k : Nat} {S : Nat → Nat} {I : Nat → Nat → Nat} (hL : x_SL L) (hF : x_Fin xFL G) (hE : mEq m S I G) (hk : k < 2 * m)
    (cont : ∀ (o3 o4 : Option (Nat × Int)), X mX12_usedNames 0 0 0 (pUs L G S I m) 64 [some (vR 127), some (vI (zus S I (k + 1))), some (vI k), o3, o4] [] L G 0 0) :
    ∀ (r i : Nat) (o4 : Option (Nat × Int)), i + r = S k → X mX12_usedNames 0 0 0 (pUs L G S I m) 16 [some (vR 127), some (vI ((zus S I k ||| zuj I k i : Nat) : Int)), some (vI k), some (vI i), o4] [] L G 0 0 := by
  obtain ⟨h1, h2, h3⟩ := hE
  obtain ⟨s1, s2, s3⟩ := h3 k hk
  intro r
  induction r with
  | zero =>
    intro i o4 hi
    have hi : i = S k := by omega
    subst hi
    refine x_iloadn (pc := 16) dX12_usedNames_16 rfl ?_
    refine x_aloadn (pc := 17) dX12_usedNames_17 rfl ?_
    refine x_getR (130) (pc := 18) dX12_usedNames_18 fl_X12_16 k_127 (hL 127 (by decide) (by decide)) (f_127_3 hF) ?_
    refine x_iloadn (pc := 21) dX12_usedNames_21 rfl ?_
    refine x_iald (k) (pc := 22) dX12_usedNames_22 k_130 (hL 130 (by decide) (by decide)) (⟨by omega, by omega, by decide⟩) ?_
    refine x_cge (tgt := 64) (pc := 23) dX12_usedNames_23 (by decide) (by omega) (fun c_23 => ?_) (fun c_23 => ?_)
    rotate_left
    · skip
      exact absurd c_23 (by omega)
    exact cont _ _
  | succ r ih =>
    intro i o4 hi
    obtain ⟨t1, t2, t3⟩ := s3 i (by omega)
    have hlt : zus S I k ||| zuj I k i < 16 := Nat.or_lt_two_pow (n := 4) (zus_lt k (fun q hq j hj => ((h3 q (by omega)).2.2 j hj).2)) (zuj_lt i (fun j hj => (s3 j (by omega)).2))
    have hp := zp4 t2
    have hstep : ∀ b : Nat, b = (if 3 < I k i then 2 ^ (I k i - 4) else 0) → (zus S I k ||| zuj I k i) ||| b = zus S I k ||| zuj I k (i + 1) := by
      intro b hb
      rw [Nat.or_assoc, hb, zuj]
    refine x_iloadn (pc := 16) dX12_usedNames_16 rfl ?_
    refine x_aloadn (pc := 17) dX12_usedNames_17 rfl ?_
    refine x_getR (130) (pc := 18) dX12_usedNames_18 fl_X12_16 k_127 (hL 127 (by decide) (by decide)) (f_127_3 hF) ?_
    refine x_iloadn (pc := 21) dX12_usedNames_21 rfl ?_
    refine x_iald (k) (pc := 22) dX12_usedNames_22 k_130 (hL 130 (by decide) (by decide)) (⟨by omega, by omega, by decide⟩) ?_
    refine x_cge (tgt := 64) (pc := 23) dX12_usedNames_23 (by decide) (by omega) (fun c_23 => ?_) (fun c_23 => ?_)
    · skip
      exact absurd c_23 (by omega)
    refine x_aloadn (pc := 26) dX12_usedNames_26 rfl ?_
    refine x_getR (129) (pc := 27) dX12_usedNames_27 fl_X12_13 k_127 (hL 127 (by decide) (by decide)) (f_127_2 hF) ?_
    refine x_bipush (pc := 30) dX12_usedNames_30 (by decide) ?_
    refine x_iloadn (pc := 32) dX12_usedNames_32 rfl ?_
    refine x_imul (pc := 33) dX12_usedNames_33 ?_
    refine x_iloadn (pc := 34) dX12_usedNames_34 rfl ?_
    refine x_iadd (pc := 35) dX12_usedNames_35 ?_
    refine x_iald (12 * k + i) (pc := 36) dX12_usedNames_36 k_129 (hL 129 (by decide) (by decide)) (⟨by omega, by omega, by decide⟩) ?_
    rw [t1]
    refine x_istore (pc := 37) dX12_usedNames_37 (by decide) rfl ?_
    refine x_iloadn (pc := 39) dX12_usedNames_39 rfl ?_
    refine x_iload (pc := 40) dX12_usedNames_40 rfl ?_
    refine x_iconst (pc := 42) dX12_usedNames_42 ?_
    refine x_cle (tgt := 55) (pc := 43) dX12_usedNames_43 (by decide) (by omega) (fun c_43 => ?_) (fun c_43 => ?_)
    · skip
      refine x_iconst (pc := 55) dX12_usedNames_55 ?_
      first
      | (refine x_iorN (pc := 56) dX12_usedNames_56 (zus S I k ||| zuj I k i) (2 ^ (I k i - 4)) rfl (by simp) ⟨by omega, by omega⟩ ?_; rw [hstep _ (by rw [if_pos (by omega)])]; refine x_istoren (pc := 57) dX12_usedNames_57 rfl (by decide) rfl ?_; refine x_iinc (pc := 58) dX12_usedNames_58 rfl (by decide) rfl ?_; refine x_goto (tgt := 16) (pc := 61) dX12_usedNames_61 (by decide) ?_; exact ih (i + 1) _ (by omega))
      | (refine x_iorN (pc := 56) dX12_usedNames_56 (zus S I k ||| zuj I k i) 0 rfl (by simp) ⟨by omega, by omega⟩ ?_; rw [hstep _ (by rw [if_neg (by omega)])]; refine x_istoren (pc := 57) dX12_usedNames_57 rfl (by decide) rfl ?_; refine x_iinc (pc := 58) dX12_usedNames_58 rfl (by decide) rfl ?_; refine x_goto (tgt := 16) (pc := 61) dX12_usedNames_61 (by decide) ?_; exact ih (i + 1) _ (by omega))
    · skip
      refine x_iconst (pc := 46) dX12_usedNames_46 ?_
      refine x_iload (pc := 47) dX12_usedNames_47 rfl ?_
      refine x_iconst (pc := 49) dX12_usedNames_49 ?_
      refine x_isub (pc := 50) dX12_usedNames_50 ?_
      refine x_ishl (pc := 51) dX12_usedNames_51 (I k i - 4) (by omega) (by omega) ?_
      refine x_goto (tgt := 56) (pc := 52) dX12_usedNames_52 (by decide) ?_
      first
      | (refine x_iorN (pc := 56) dX12_usedNames_56 (zus S I k ||| zuj I k i) (2 ^ (I k i - 4)) rfl (by simp) ⟨by omega, by omega⟩ ?_; rw [hstep _ (by rw [if_pos (by omega)])]; refine x_istoren (pc := 57) dX12_usedNames_57 rfl (by decide) rfl ?_; refine x_iinc (pc := 58) dX12_usedNames_58 rfl (by decide) rfl ?_; refine x_goto (tgt := 16) (pc := 61) dX12_usedNames_61 (by decide) ?_; exact ih (i + 1) _ (by omega))
      | (refine x_iorN (pc := 56) dX12_usedNames_56 (zus S I k ||| zuj I k i) 0 rfl (by simp) ⟨by omega, by omega⟩ ?_; rw [hstep _ (by rw [if_neg (by omega)])]; refine x_istoren (pc := 57) dX12_usedNames_57 rfl (by decide) rfl ?_; refine x_iinc (pc := 58) dX12_usedNames_58 rfl (by decide) rfl ?_; refine x_goto (tgt := 16) (pc := 61) dX12_usedNames_61 (by decide) ?_; exact ih (i + 1) _ (by omega))
theorem l_mo_usedO {L : List Nat} {G : Nat → Nat → Int} {m : Nat} {S : Nat → Nat} {I : Nat → Nat → Nat} (hL : x_SL L) (hF : x_Fin xFL G) (hE : mEq m S I G) :
    ∀ (r k : Nat) (o3 o4 : Option (Nat × Int)), k + r = 2 * m → X mX12_usedNames 0 0 0 (pUs L G S I m) 4 [some (vR 127), some (vI (zus S I k)), some (vI k), o3, o4] [] L G 0 0 := by
  obtain ⟨h1, h2, h3⟩ := id hE
  intro r
  induction r with
  | zero =>
    intro k o3 o4 hk
    have hk : k = 2 * m := by omega
    subst hk
    refine x_iloadn (pc := 4) dX12_usedNames_4 rfl ?_
    refine x_iconst (pc := 5) dX12_usedNames_5 ?_
    refine x_aloadn (pc := 6) dX12_usedNames_6 rfl ?_
    refine x_getI (pc := 7) dX12_usedNames_7 fl_X12_154 k_127 (hL 127 (by decide) (by decide)) ?_
    refine x_imul (pc := 10) dX12_usedNames_10 ?_
    refine x_cge (tgt := 70) (pc := 11) dX12_usedNames_11 (by decide) (by omega) (fun c_11 => ?_) (fun c_11 => ?_)
    rotate_left
    · skip
      exact absurd c_11 (by omega)
    refine x_iloadn (pc := 70) dX12_usedNames_70 rfl ?_
    refine x_rI (pc := 71) dX12_usedNames_71 rfl ?_
    exact ⟨rfl, rfl⟩
  | succ r ih =>
    intro k o3 o4 hk
    refine x_iloadn (pc := 4) dX12_usedNames_4 rfl ?_
    refine x_iconst (pc := 5) dX12_usedNames_5 ?_
    refine x_aloadn (pc := 6) dX12_usedNames_6 rfl ?_
    refine x_getI (pc := 7) dX12_usedNames_7 fl_X12_154 k_127 (hL 127 (by decide) (by decide)) ?_
    refine x_imul (pc := 10) dX12_usedNames_10 ?_
    refine x_cge (tgt := 70) (pc := 11) dX12_usedNames_11 (by decide) (by omega) (fun c_11 => ?_) (fun c_11 => ?_)
    · skip
      exact absurd c_11 (by omega)
    refine x_iconst (pc := 14) dX12_usedNames_14 ?_
    refine x_istoren (pc := 15) dX12_usedNames_15 rfl (by decide) rfl ?_
    have h0 : zus S I k = zus S I k ||| zuj I k 0 := (Nat.or_zero _).symm
    rw [h0]
    refine l_mo_usedI hL hF hE (by omega) (fun p3 p4 => ?_) (S k) 0 _ (by omega)
    refine x_iinc (pc := 64) dX12_usedNames_64 rfl (by decide) rfl ?_
    refine x_goto (tgt := 4) (pc := 67) dX12_usedNames_67 (by decide) ?_
    exact ih (k + 1) _ _ (by omega)
theorem c_mo_usedNames {L : List Nat} {G : Nat → Nat → Int} {m : Nat} {S : Nat → Nat} {I : Nat → Nat → Nat} (hL : x_SL L) (hF : x_Fin xFL G) (hE : mEq m S I G) :
    CM yX12_usedNames mX12_usedNames 0 0 0 [vR 127] L G (pUs L G S I m) := by
  refine Ct.of_X (μ := mX12_usedNames) rfl rfl (by decide) (fun h => by cases h) (Nat.le_of_ble_eq_true rfl) rfl ?_
  refine x_iconst (pc := 0) dX12_usedNames_0 ?_
  refine x_istoren (pc := 1) dX12_usedNames_1 rfl (by decide) rfl ?_
  refine x_iconst (pc := 2) dX12_usedNames_2 ?_
  refine x_istoren (pc := 3) dX12_usedNames_3 rfl (by decide) rfl ?_
  exact l_mo_usedO hL hF hE (2 * m) 0 _ _ (by omega)

