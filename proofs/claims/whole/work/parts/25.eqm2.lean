/-! the reference's bounds, told words, counts -/
def zlet (w : Int) (i : Nat) : Int := (w / 2 ^ (2 * i)) % 4
theorem zlet_bd (w : Int) (i : Nat) : 0 ≤ zlet w i ∧ zlet w i ≤ 3 := by unfold zlet; omega
def zgood (w : Int) (n : Nat) : Prop := ∀ i, i < n → zlet w i < 3
def mBd (lo hi mk : Nat → Nat) (G : Nat → Nat → Int) : Prop := ∀ u, u < 4 → G 131 u = lo u ∧ G 132 u = hi u ∧ G 133 u = mk u ∧ lo u ≤ hi u ∧ hi u ≤ 8 ∧ mk u ≤ 7
def mTd (tw : Nat → Int) (tn : Nat → Nat) (G : Nat → Nat → Int) : Prop := ∀ u, u < 4 → G 134 u = tw u ∧ G 135 u = tn u ∧ tn u ≤ 8 ∧ (-2147483648 ≤ tw u ∧ tw u < 2147483648) ∧ zgood (tw u) (tn u)
def zup {α : Type} (f : Nat → α) (k : Nat) (x : α) : Nat → α := fun q => if q = k then x else f q
theorem zup_s {α : Type} {f : Nat → α} {k : Nat} {x : α} : zup f k x k = x := if_pos rfl
theorem zup_n {α : Type} {f : Nat → α} {k q : Nat} {x : α} (h : q ≠ k) : zup f k x q = f q := if_neg h
theorem c_mo_bounds {lo hi mk : Nat → Nat} {u a c e : Int} {L : List Nat} {G : Nat → Nat → Int} (hL : x_SL L) (hF : x_Fin xFL G) (hB : mBd lo hi mk G) (hu : -2147483648 ≤ u ∧ u < 2147483648) (ha : -2147483648 ≤ a ∧ a < 2147483648) (hc : -2147483648 ≤ c ∧ c < 2147483648) (he : -2147483648 ≤ e ∧ e < 2147483648) :
    CM yX12_bounds mX12_bounds 2 0 0 [vR 127, vI u, vI a, vI c, vI e] L G (qI L fun x G' => (¬ (0 ≤ u ∧ u < 4) ∧ x = -2 ∧ G' = G) ∨ ((0 ≤ u ∧ u < 4) ∧ ¬ (0 ≤ a ∧ a ≤ c ∧ c ≤ 8 ∧ 0 ≤ e ∧ e ≤ 7) ∧ x = -3 ∧ G' = G) ∨ ((0 ≤ u ∧ u < 4) ∧ (0 ≤ a ∧ a ≤ c ∧ c ≤ 8 ∧ 0 ≤ e ∧ e ≤ 7) ∧ x = 1 ∧ mBd (zup lo u.toNat a.toNat) (zup hi u.toNat c.toNat) (zup mk u.toNat e.toNat) G' ∧ FM [131, 132, 133] [] G G' ∧ x_Fin xFL G')) := by
  refine Ct.of_X (μ := mX12_bounds) rfl rfl (by decide) (fun h => by cases h) (Nat.le_of_ble_eq_true rfl) rfl ?_
  refine x_iloadn (pc := 0) dX12_bounds_0 rfl ?_
  refine x_cSI (pc := 1) dX12_bounds_1 lk_X12_161 (c_mo_isName hu) (⟨by decide, by decide⟩) (Nat.le_of_ble_eq_true rfl) rfl ?_
  rintro x G' ⟨rfl, rfl⟩
  refine x_ine (tgt := 10) (pc := 4) dX12_bounds_4 (by decide) (by split <;> omega) (fun c_4 => ?_) (fun c_4 => ?_)
  · skip
    refine x_iloadn (pc := 10) dX12_bounds_10 rfl ?_
    refine x_i2l (pc := 11) dX12_bounds_11 (by omega) ?_
    refine x_lconst (x := 0) (pc := 12) dX12_bounds_12 (by decide) ?_
    refine x_ldc2 (pc := 13) dX12_bounds_13 co_X12_135 ?_
    refine x_cSI (pc := 16) dX12_bounds_16 lk_X12_131 (c_mo_in (by omega)) (⟨by decide, by decide⟩) (Nat.le_of_ble_eq_true rfl) rfl ?_
    rintro x G' ⟨rfl, rfl⟩
    refine x_ieq (tgt := 48) (pc := 19) dX12_bounds_19 (by decide) (by split <;> omega) (fun c_19 => ?_) (fun c_19 => ?_)
    · skip
      have g0 : 0 ≤ u ∧ u < 4 := by split at c_4 <;> omega
      refine x_bipush (pc := 48) dX12_bounds_48 (by decide) ?_
      refine x_rI (pc := 50) dX12_bounds_50 rfl ?_
      refine Or.inr (Or.inl ⟨g0, ?_, rfl, rfl⟩)
      first | (split at c_19 <;> omega; done) | (split at c_32 <;> omega; done) | (split at c_45 <;> omega; done)
    · skip
      refine x_iloadn (pc := 22) dX12_bounds_22 rfl ?_
      refine x_i2l (pc := 23) dX12_bounds_23 (by omega) ?_
      refine x_iloadn (pc := 24) dX12_bounds_24 rfl ?_
      refine x_i2l (pc := 25) dX12_bounds_25 (by omega) ?_
      refine x_ldc2 (pc := 26) dX12_bounds_26 co_X12_135 ?_
      refine x_cSI (pc := 29) dX12_bounds_29 lk_X12_131 (c_mo_in (by omega)) (⟨by decide, by decide⟩) (Nat.le_of_ble_eq_true rfl) rfl ?_
      rintro x G' ⟨rfl, rfl⟩
      refine x_ieq (tgt := 48) (pc := 32) dX12_bounds_32 (by decide) (by split <;> omega) (fun c_32 => ?_) (fun c_32 => ?_)
      · skip
        have g0 : 0 ≤ u ∧ u < 4 := by split at c_4 <;> omega
        refine x_bipush (pc := 48) dX12_bounds_48 (by decide) ?_
        refine x_rI (pc := 50) dX12_bounds_50 rfl ?_
        refine Or.inr (Or.inl ⟨g0, ?_, rfl, rfl⟩)
        first | (split at c_19 <;> omega; done) | (split at c_32 <;> omega; done) | (split at c_45 <;> omega; done)
      · skip
        refine x_iload (pc := 35) dX12_bounds_35 rfl ?_
        refine x_i2l (pc := 37) dX12_bounds_37 (by omega) ?_
        refine x_lconst (x := 0) (pc := 38) dX12_bounds_38 (by decide) ?_
        refine x_ldc2 (pc := 39) dX12_bounds_39 co_X12_164 ?_
        refine x_cSI (pc := 42) dX12_bounds_42 lk_X12_131 (c_mo_in (by omega)) (⟨by decide, by decide⟩) (Nat.le_of_ble_eq_true rfl) rfl ?_
        rintro x G' ⟨rfl, rfl⟩
        refine x_ine (tgt := 51) (pc := 45) dX12_bounds_45 (by decide) (by split <;> omega) (fun c_45 => ?_) (fun c_45 => ?_)
        · skip
          have g0 : 0 ≤ u ∧ u < 4 := by split at c_4 <;> omega
          have g1 : 0 ≤ a ∧ a ≤ 8 := by split at c_19 <;> omega
          have g2 : a ≤ c ∧ c ≤ 8 := by split at c_32 <;> omega
          have g3 : 0 ≤ e ∧ e ≤ 7 := by split at c_45 <;> omega
          refine x_aloadn (pc := 51) dX12_bounds_51 rfl ?_
          refine x_getR (131) (pc := 52) dX12_bounds_52 fl_X12_19 k_127 (hL 127 (by decide) (by decide)) (f_127_6 hF) ?_
          refine x_iloadn (pc := 55) dX12_bounds_55 rfl ?_
          refine x_iloadn (pc := 56) dX12_bounds_56 rfl ?_
          refine x_iastF (u.toNat) (pc := 57) dX12_bounds_57 k_131 (hL 131 (by decide) (by decide)) (⟨by omega, by omega, by decide⟩) hF (fun hF => ?_)
          refine x_aloadn (pc := 58) dX12_bounds_58 rfl ?_
          refine x_getR (132) (pc := 59) dX12_bounds_59 fl_X12_22 k_127 (hL 127 (by decide) (by decide)) (f_127_7 hF) ?_
          refine x_iloadn (pc := 62) dX12_bounds_62 rfl ?_
          refine x_iloadn (pc := 63) dX12_bounds_63 rfl ?_
          refine x_iastF (u.toNat) (pc := 64) dX12_bounds_64 k_132 (hL 132 (by decide) (by decide)) (⟨by omega, by omega, by decide⟩) hF (fun hF => ?_)
          refine x_aloadn (pc := 65) dX12_bounds_65 rfl ?_
          refine x_getR (133) (pc := 66) dX12_bounds_66 fl_X12_25 k_127 (hL 127 (by decide) (by decide)) (f_127_8 hF) ?_
          refine x_iloadn (pc := 69) dX12_bounds_69 rfl ?_
          refine x_iload (pc := 70) dX12_bounds_70 rfl ?_
          refine x_iastF (u.toNat) (pc := 72) dX12_bounds_72 k_133 (hL 133 (by decide) (by decide)) (⟨by omega, by omega, by decide⟩) hF (fun hF => ?_)
          refine x_iconst (pc := 73) dX12_bounds_73 ?_
          refine x_rI (pc := 74) dX12_bounds_74 rfl ?_
          refine Or.inr (Or.inr ⟨g0, by omega, rfl, fun q hq => ?_, ((FM.rf.upA (by decide)).upA (by decide)).upA (by decide), hF⟩)
          obtain ⟨b1, b2, b3, b4, b5, b6⟩ := hB q hq
          by_cases k : q = u.toNat
          · subst k
            simp [x_up, zup]; omega
          · simp [x_up, zup, k]; exact ⟨b1, b2, b3, b4, b5, b6⟩
        · skip
          have g0 : 0 ≤ u ∧ u < 4 := by split at c_4 <;> omega
          refine x_bipush (pc := 48) dX12_bounds_48 (by decide) ?_
          refine x_rI (pc := 50) dX12_bounds_50 rfl ?_
          refine Or.inr (Or.inl ⟨g0, ?_, rfl, rfl⟩)
          first | (split at c_19 <;> omega; done) | (split at c_32 <;> omega; done) | (split at c_45 <;> omega; done)
  · skip
    refine x_bipush (pc := 7) dX12_bounds_7 (by decide) ?_
    refine x_rI (pc := 9) dX12_bounds_9 rfl ?_
    exact Or.inl ⟨by split at c_4 <;> omega, rfl, rfl⟩
abbrev pTell (L : List Nat) (G : Nat → Nat → Int) (tw : Nat → Int) (tn : Nat → Nat) (u w n : Int) : x_Q := qI L fun x G' => (¬ (0 ≤ u ∧ u < 4) ∧ x = -2 ∧ G' = G) ∨ ((0 ≤ u ∧ u < 4) ∧ ¬ (0 ≤ n ∧ n ≤ 8 ∧ zgood w n.toNat) ∧ x = -3 ∧ G' = G) ∨ ((0 ≤ u ∧ u < 4) ∧ (0 ≤ n ∧ n ≤ 8 ∧ zgood w n.toNat) ∧ x = 1 ∧ mTd (zup tw u.toNat w) (zup tn u.toNat n.toNat) G' ∧ FM [134, 135] [] G G' ∧ x_Fin xFL G')
theorem l_mo_tell60 {tw : Nat → Int} {tn : Nat → Nat} {u w n F : Int} {o : Option (Nat × Int)} {L : List Nat} {G : Nat → Nat → Int} (hL : x_SL L) (hF : x_Fin xFL G) (hB : mTd tw tn G) (hw : -2147483648 ≤ w ∧ w < 2147483648) (hu : 0 ≤ u ∧ u < 4) (h : (F = 1 ∧ (0 ≤ n ∧ n ≤ 8 ∧ zgood w n.toNat)) ∨ (F = 0 ∧ ¬ (0 ≤ n ∧ n ≤ 8 ∧ zgood w n.toNat))) :
    X mX12_tell 2 0 0 (pTell L G tw tn u w n) 60 [some (vR 127), some (vI u), some (vI w), some (vI n), some (vI F), o] [] L G 0 0 := by
  rcases h with ⟨rfl, h⟩ | ⟨rfl, h⟩
  · skip
    refine x_iload (pc := 60) dX12_tell_60 rfl ?_
    refine x_ine (tgt := 68) (pc := 62) dX12_tell_62 (by decide) (by omega) (fun c_62 => ?_) (fun c_62 => ?_)
    rotate_left
    · skip
      exact absurd c_62 (by decide)
    refine x_aloadn (pc := 68) dX12_tell_68 rfl ?_
    refine x_getR (134) (pc := 69) dX12_tell_69 fl_X12_28 k_127 (hL 127 (by decide) (by decide)) (f_127_9 hF) ?_
    refine x_iloadn (pc := 72) dX12_tell_72 rfl ?_
    refine x_iloadn (pc := 73) dX12_tell_73 rfl ?_
    refine x_iastF (u.toNat) (pc := 74) dX12_tell_74 k_134 (hL 134 (by decide) (by decide)) (⟨by omega, by omega, by decide⟩) hF (fun hF => ?_)
    refine x_aloadn (pc := 75) dX12_tell_75 rfl ?_
    refine x_getR (135) (pc := 76) dX12_tell_76 fl_X12_31 k_127 (hL 127 (by decide) (by decide)) (f_127_10 hF) ?_
    refine x_iloadn (pc := 79) dX12_tell_79 rfl ?_
    refine x_iloadn (pc := 80) dX12_tell_80 rfl ?_
    refine x_iastF (u.toNat) (pc := 81) dX12_tell_81 k_135 (hL 135 (by decide) (by decide)) (⟨by omega, by omega, by decide⟩) hF (fun hF => ?_)
    refine x_iconst (pc := 82) dX12_tell_82 ?_
    refine x_rI (pc := 83) dX12_tell_83 rfl ?_
    refine Or.inr (Or.inr ⟨hu, h, rfl, fun q hq => ?_, (FM.rf.upA (by decide)).upA (by decide), hF⟩)
    by_cases k : q = u.toNat
    · subst k
      refine ⟨by simp [x_up, zup], by simp [x_up, zup]; omega, by rw [zup_s]; omega, by rw [zup_s]; exact hw, by rw [zup_s, zup_s]; exact h.2.2⟩
    · simp [x_up, zup, k]; exact hB q hq
  · skip
    refine x_iload (pc := 60) dX12_tell_60 rfl ?_
    refine x_ine (tgt := 68) (pc := 62) dX12_tell_62 (by decide) (by omega) (fun c_62 => ?_) (fun c_62 => ?_)
    · skip
      exact absurd rfl c_62
    refine x_bipush (pc := 65) dX12_tell_65 (by decide) ?_
    refine x_rI (pc := 67) dX12_tell_67 rfl ?_
    exact Or.inr (Or.inl ⟨hu, h, rfl, rfl⟩)
theorem zgood_s {w : Int} {i : Nat} (h : zgood w i) (k : zlet w i < 3) : zgood w (i + 1) := fun j hj => by
  by_cases c : j = i
  · subst c; exact k
  · exact h j (by omega)
theorem l_mo_tell {tw : Nat → Int} {tn : Nat → Nat} {u w : Int} {n : Nat} {L : List Nat} {G : Nat → Nat → Int} (hL : x_SL L) (hF : x_Fin xFL G) (hB : mTd tw tn G) (hw : -2147483648 ≤ w ∧ w < 2147483648) (hu : 0 ≤ u ∧ u < 4) (hn : n ≤ 8) :
    ∀ (k i : Nat), i + k = n → zgood w i → X mX12_tell 2 0 0 (pTell L G tw tn u w n) 24 [some (vR 127), some (vI u), some (vI w), some (vI n), some (vI 1), some (vI i)] [] L G 0 0 := by
  intro k
  induction k with
  | zero =>
    intro i hi hg
    have hi : i = n := by omega
    subst hi
    refine x_iload (pc := 24) dX12_tell_24 rfl ?_
    refine x_ieq (tgt := 60) (pc := 26) dX12_tell_26 (by decide) (by omega) (fun c_26 => ?_) (fun c_26 => ?_)
    · skip
      exact absurd c_26 (by decide)
    refine x_iload (pc := 29) dX12_tell_29 rfl ?_
    refine x_iloadn (pc := 31) dX12_tell_31 rfl ?_
    refine x_cge (tgt := 60) (pc := 32) dX12_tell_32 (by decide) (by omega) (fun c_32 => ?_) (fun c_32 => ?_)
    rotate_left
    · skip
      exact absurd c_32 (by omega)
    exact l_mo_tell60 hL hF hB hw hu (Or.inl ⟨rfl, by omega, by omega, by rw [Int.toNat_natCast]; exact hg⟩)
  | succ k ih =>
    intro i hi hg
    have hzl : (w / 2 ^ (2 * i)) % 4 = zlet w i := rfl
    have hzb := zlet_bd w i
    refine x_iload (pc := 24) dX12_tell_24 rfl ?_
    refine x_ieq (tgt := 60) (pc := 26) dX12_tell_26 (by decide) (by omega) (fun c_26 => ?_) (fun c_26 => ?_)
    · skip
      exact absurd c_26 (by decide)
    refine x_iload (pc := 29) dX12_tell_29 rfl ?_
    refine x_iloadn (pc := 31) dX12_tell_31 rfl ?_
    refine x_cge (tgt := 60) (pc := 32) dX12_tell_32 (by decide) (by omega) (fun c_32 => ?_) (fun c_32 => ?_)
    · skip
      exact absurd c_32 (by omega)
    refine x_iloadn (pc := 35) dX12_tell_35 rfl ?_
    refine x_iconst (pc := 36) dX12_tell_36 ?_
    refine x_iload (pc := 37) dX12_tell_37 rfl ?_
    refine x_imul (pc := 39) dX12_tell_39 ?_
    refine x_ishr (pc := 40) dX12_tell_40 (2 * i) (by omega) (by omega) (by omega) ?_
    refine x_iconst (pc := 41) dX12_tell_41 ?_
    refine x_iandm (pc := 42) dX12_tell_42 2 4 (by decide) (by decide) (by decide) ?_
    rw [hzl]
    refine x_iconst (pc := 43) dX12_tell_43 ?_
    refine x_cge (tgt := 51) (pc := 44) dX12_tell_44 (by decide) (by omega) (fun c_44 => ?_) (fun c_44 => ?_)
    · skip
      refine x_iconst (pc := 51) dX12_tell_51 ?_
      refine x_istore (pc := 52) dX12_tell_52 (by decide) rfl ?_
      first
      | (refine x_iinc (pc := 54) dX12_tell_54 rfl (by decide) rfl ?_; refine x_goto (tgt := 24) (pc := 57) dX12_tell_57 (by decide) ?_; exact ih (i + 1) (by omega) (zgood_s hg (by omega)))
      | (refine x_iinc (pc := 54) dX12_tell_54 rfl (by decide) rfl ?_; refine x_goto (tgt := 24) (pc := 57) dX12_tell_57 (by decide) ?_; refine x_iload (pc := 24) dX12_tell_24 rfl ?_; refine x_ieq (tgt := 60) (pc := 26) dX12_tell_26 (by decide) (by decide) (fun _ => ?_) (fun q => absurd rfl q); exact l_mo_tell60 hL hF hB hw hu (Or.inr ⟨rfl, fun q => by have := q.2.2 i (by omega); omega⟩))
    · skip
      refine x_iconst (pc := 47) dX12_tell_47 ?_
      refine x_goto (tgt := 52) (pc := 48) dX12_tell_48 (by decide) ?_
      refine x_istore (pc := 52) dX12_tell_52 (by decide) rfl ?_
      first
      | (refine x_iinc (pc := 54) dX12_tell_54 rfl (by decide) rfl ?_; refine x_goto (tgt := 24) (pc := 57) dX12_tell_57 (by decide) ?_; exact ih (i + 1) (by omega) (zgood_s hg (by omega)))
      | (refine x_iinc (pc := 54) dX12_tell_54 rfl (by decide) rfl ?_; refine x_goto (tgt := 24) (pc := 57) dX12_tell_57 (by decide) ?_; refine x_iload (pc := 24) dX12_tell_24 rfl ?_; refine x_ieq (tgt := 60) (pc := 26) dX12_tell_26 (by decide) (by decide) (fun _ => ?_) (fun q => absurd rfl q); exact l_mo_tell60 hL hF hB hw hu (Or.inr ⟨rfl, fun q => by have := q.2.2 i (by omega); omega⟩))
theorem c_mo_tell {tw : Nat → Int} {tn : Nat → Nat} {u w n : Int} {L : List Nat} {G : Nat → Nat → Int} (hL : x_SL L) (hF : x_Fin xFL G) (hB : mTd tw tn G) (hu : -2147483648 ≤ u ∧ u < 2147483648) (hw : -2147483648 ≤ w ∧ w < 2147483648) (hn : -2147483648 ≤ n ∧ n < 2147483648) :
    CM yX12_tell mX12_tell 2 0 0 [vR 127, vI u, vI w, vI n] L G (pTell L G tw tn u w n) := by
  refine Ct.of_X (μ := mX12_tell) rfl rfl (by decide) (fun h => by cases h) (Nat.le_of_ble_eq_true rfl) rfl ?_
  refine x_iloadn (pc := 0) dX12_tell_0 rfl ?_
  refine x_cSI (pc := 1) dX12_tell_1 lk_X12_161 (c_mo_isName hu) (⟨by decide, by decide⟩) (Nat.le_of_ble_eq_true rfl) rfl ?_
  rintro x G' ⟨rfl, rfl⟩
  refine x_ine (tgt := 10) (pc := 4) dX12_tell_4 (by decide) (by split <;> omega) (fun c_4 => ?_) (fun c_4 => ?_)
  · skip
    refine x_iloadn (pc := 10) dX12_tell_10 rfl ?_
    refine x_i2l (pc := 11) dX12_tell_11 (by omega) ?_
    refine x_lconst (x := 0) (pc := 12) dX12_tell_12 (by decide) ?_
    refine x_ldc2 (pc := 13) dX12_tell_13 co_X12_135 ?_
    refine x_cSI (pc := 16) dX12_tell_16 lk_X12_131 (c_mo_in (by omega)) (⟨by decide, by decide⟩) (Nat.le_of_ble_eq_true rfl) rfl ?_
    rintro x G' ⟨rfl, rfl⟩
    refine x_istore (pc := 19) dX12_tell_19 (by decide) rfl ?_
    refine x_iconst (pc := 21) dX12_tell_21 ?_
    refine x_istore (pc := 22) dX12_tell_22 (by decide) rfl ?_
    have g0 : 0 ≤ u ∧ u < 4 := by split at c_4 <;> omega
    by_cases g1 : 0 ≤ n ∧ n ≤ 8
    · rw [if_pos g1]
      obtain ⟨m, rfl⟩ : ∃ m : Nat, n = m := ⟨n.toNat, by omega⟩
      exact l_mo_tell hL hF hB hw g0 (by omega) m 0 (by omega) (fun j hj => absurd hj (Nat.not_lt_zero j))
    · rw [if_neg g1]
      refine x_iload (pc := 24) dX12_tell_24 rfl ?_; refine x_ieq (tgt := 60) (pc := 26) dX12_tell_26 (by decide) (by decide) (fun _ => ?_) (fun q => absurd rfl q); exact l_mo_tell60 hL hF hB hw g0 (Or.inr ⟨rfl, fun q => g1 ⟨q.1, q.2.1⟩⟩)
  · skip
    refine x_bipush (pc := 7) dX12_tell_7 (by decide) ?_
    refine x_rI (pc := 9) dX12_tell_9 rfl ?_
    exact Or.inl ⟨by split at c_4 <;> omega, rfl, rfl⟩

