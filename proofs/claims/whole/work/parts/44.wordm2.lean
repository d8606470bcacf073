/-! the reference's falling parts, agreeing, turned -/
def zaf (f : Nat → Nat) (fr e : Nat) : Nat → Nat → Bool
  | 0, _ => false
  | k + 1, j => if f (fr + j) = f (e + j) then zaf f fr e k (j + 1) else decide (f (fr + j) < f (e + j))
theorem l_mo_ahT {dn : Nat → Nat} {dl : Nat → Nat → Nat} {i fr n e j : Nat} {z : Bool} {L : List Nat} {G : Nat → Nat → Int} (hL : x_SL L) (hF : x_Fin xFL G) (hD : mDk dn dl G) (hi : i < 4) (hn : fr + n ≤ dn i) (he : fr ≤ e) (hj : e + j ≤ fr + n)
    (hz : (if e + j < fr + n ∧ dl i (fr + j) < dl i (e + j) then true else false) = z) : X mX12_isAheadOf 0 0 0 (qI L fun x G' => x = (if z = true then 1 else 0) ∧ G' = G) 52 [some (vR 127), some (vI i), some (vI fr), some (vI n), some (vI e), some (vI j)] [] L G 0 0 := by
  obtain ⟨d1, d2, d3⟩ := hD i hi
  by_cases c : e + j < fr + n
  · obtain ⟨a1, a2⟩ := d3 (fr + j) (by omega)
    obtain ⟨b1, b2⟩ := d3 (e + j) (by omega)
    refine x_iload (pc := 52) dX12_isAheadOf_52 rfl ?_
    refine x_iload (pc := 54) dX12_isAheadOf_54 rfl ?_
    refine x_iadd (pc := 56) dX12_isAheadOf_56 ?_
    refine x_iloadn (pc := 57) dX12_isAheadOf_57 rfl ?_
    refine x_iloadn (pc := 58) dX12_isAheadOf_58 rfl ?_
    refine x_iadd (pc := 59) dX12_isAheadOf_59 ?_
    refine x_cge (tgt := 99) (pc := 60) dX12_isAheadOf_60 (by decide) (by omega) (fun c_60 => ?_) (fun c_60 => ?_)
    · skip
      exact absurd c_60 (by omega)
    refine x_aloadn (pc := 63) dX12_isAheadOf_63 rfl ?_
    refine x_getR (136) (pc := 64) dX12_isAheadOf_64 fl_X12_34 k_127 (hL 127 (by decide) (by decide)) (f_127_11 hF) ?_
    refine x_bipush (pc := 67) dX12_isAheadOf_67 (by decide) ?_
    refine x_iloadn (pc := 69) dX12_isAheadOf_69 rfl ?_
    refine x_imul (pc := 70) dX12_isAheadOf_70 ?_
    refine x_iloadn (pc := 71) dX12_isAheadOf_71 rfl ?_
    refine x_iadd (pc := 72) dX12_isAheadOf_72 ?_
    refine x_iload (pc := 73) dX12_isAheadOf_73 rfl ?_
    refine x_iadd (pc := 75) dX12_isAheadOf_75 ?_
    refine x_iald (30 * i + (fr + j)) (pc := 76) dX12_isAheadOf_76 k_136 (hL 136 (by decide) (by decide)) (⟨by omega, by omega, by decide⟩) ?_
    rw [a1]
    refine x_aloadn (pc := 77) dX12_isAheadOf_77 rfl ?_
    refine x_getR (136) (pc := 78) dX12_isAheadOf_78 fl_X12_34 k_127 (hL 127 (by decide) (by decide)) (f_127_11 hF) ?_
    refine x_bipush (pc := 81) dX12_isAheadOf_81 (by decide) ?_
    refine x_iloadn (pc := 83) dX12_isAheadOf_83 rfl ?_
    refine x_imul (pc := 84) dX12_isAheadOf_84 ?_
    refine x_iload (pc := 85) dX12_isAheadOf_85 rfl ?_
    refine x_iadd (pc := 87) dX12_isAheadOf_87 ?_
    refine x_iload (pc := 88) dX12_isAheadOf_88 rfl ?_
    refine x_iadd (pc := 90) dX12_isAheadOf_90 ?_
    refine x_iald (30 * i + (e + j)) (pc := 91) dX12_isAheadOf_91 k_136 (hL 136 (by decide) (by decide)) (⟨by omega, by omega, by decide⟩) ?_
    rw [b1]
    refine x_cge (tgt := 99) (pc := 92) dX12_isAheadOf_92 (by decide) (by omega) (fun c_92 => ?_) (fun c_92 => ?_)
    · skip
      refine x_iconst (pc := 99) dX12_isAheadOf_99 ?_
      refine x_rZ (pc := 100) dX12_isAheadOf_100 rfl (by omega) ?_
      refine ⟨?_, rfl⟩
      first | (rw [if_pos (by omega)] at hz; rw [← hz]; rfl) | (rw [if_neg (by omega)] at hz; rw [← hz]; rfl)
    · skip
      refine x_iconst (pc := 95) dX12_isAheadOf_95 ?_
      refine x_goto (tgt := 100) (pc := 96) dX12_isAheadOf_96 (by decide) ?_
      refine x_rZ (pc := 100) dX12_isAheadOf_100 rfl (by omega) ?_
      refine ⟨?_, rfl⟩
      first | (rw [if_pos (by omega)] at hz; rw [← hz]; rfl) | (rw [if_neg (by omega)] at hz; rw [← hz]; rfl)
  · rw [if_neg (by omega)] at hz
    refine x_iload (pc := 52) dX12_isAheadOf_52 rfl ?_
    refine x_iload (pc := 54) dX12_isAheadOf_54 rfl ?_
    refine x_iadd (pc := 56) dX12_isAheadOf_56 ?_
    refine x_iloadn (pc := 57) dX12_isAheadOf_57 rfl ?_
    refine x_iloadn (pc := 58) dX12_isAheadOf_58 rfl ?_
    refine x_iadd (pc := 59) dX12_isAheadOf_59 ?_
    refine x_cge (tgt := 99) (pc := 60) dX12_isAheadOf_60 (by decide) (by omega) (fun c_60 => ?_) (fun c_60 => ?_)
    rotate_left
    · skip
      exact absurd c_60 (by omega)
    refine x_iconst (pc := 99) dX12_isAheadOf_99 ?_
    refine x_rZ (pc := 100) dX12_isAheadOf_100 rfl (by omega) ?_
    exact ⟨by rw [← hz]; rfl, rfl⟩
theorem l_mo_ah {dn : Nat → Nat} {dl : Nat → Nat → Nat} {i fr n e : Nat} {L : List Nat} {G : Nat → Nat → Int} (hL : x_SL L) (hF : x_Fin xFL G) (hD : mDk dn dl G) (hi : i < 4) (hn : fr + n ≤ dn i) (he : fr ≤ e) :
    ∀ (k j : Nat) (z : Bool), e + j + k = fr + n → zaf (dl i) fr e k j = z → X mX12_isAheadOf 0 0 0 (qI L fun x G' => x = (if z = true then 1 else 0) ∧ G' = G) 3 [some (vR 127), some (vI i), some (vI fr), some (vI n), some (vI e), some (vI j)] [] L G 0 0 := by
  obtain ⟨d1, d2, d3⟩ := hD i hi
  intro k
  induction k with
  | zero =>
    intro j z hj hz
    refine x_iload (pc := 3) dX12_isAheadOf_3 rfl ?_
    refine x_iload (pc := 5) dX12_isAheadOf_5 rfl ?_
    refine x_iadd (pc := 7) dX12_isAheadOf_7 ?_
    refine x_iloadn (pc := 8) dX12_isAheadOf_8 rfl ?_
    refine x_iloadn (pc := 9) dX12_isAheadOf_9 rfl ?_
    refine x_iadd (pc := 10) dX12_isAheadOf_10 ?_
    refine x_cge (tgt := 52) (pc := 11) dX12_isAheadOf_11 (by decide) (by omega) (fun c_11 => ?_) (fun c_11 => ?_)
    rotate_left
    · skip
      exact absurd c_11 (by omega)
    exact l_mo_ahT hL hF hD hi hn he (by omega) (by rw [if_neg (by omega)]; exact hz)
  | succ k ih =>
    intro j z hj hz
    obtain ⟨a1, a2⟩ := d3 (fr + j) (by omega)
    obtain ⟨b1, b2⟩ := d3 (e + j) (by omega)
    rw [zaf] at hz
    refine x_iload (pc := 3) dX12_isAheadOf_3 rfl ?_
    refine x_iload (pc := 5) dX12_isAheadOf_5 rfl ?_
    refine x_iadd (pc := 7) dX12_isAheadOf_7 ?_
    refine x_iloadn (pc := 8) dX12_isAheadOf_8 rfl ?_
    refine x_iloadn (pc := 9) dX12_isAheadOf_9 rfl ?_
    refine x_iadd (pc := 10) dX12_isAheadOf_10 ?_
    refine x_cge (tgt := 52) (pc := 11) dX12_isAheadOf_11 (by decide) (by omega) (fun c_11 => ?_) (fun c_11 => ?_)
    · skip
      exact absurd c_11 (by omega)
    refine x_aloadn (pc := 14) dX12_isAheadOf_14 rfl ?_
    refine x_getR (136) (pc := 15) dX12_isAheadOf_15 fl_X12_34 k_127 (hL 127 (by decide) (by decide)) (f_127_11 hF) ?_
    refine x_bipush (pc := 18) dX12_isAheadOf_18 (by decide) ?_
    refine x_iloadn (pc := 20) dX12_isAheadOf_20 rfl ?_
    refine x_imul (pc := 21) dX12_isAheadOf_21 ?_
    refine x_iloadn (pc := 22) dX12_isAheadOf_22 rfl ?_
    refine x_iadd (pc := 23) dX12_isAheadOf_23 ?_
    refine x_iload (pc := 24) dX12_isAheadOf_24 rfl ?_
    refine x_iadd (pc := 26) dX12_isAheadOf_26 ?_
    refine x_iald (30 * i + (fr + j)) (pc := 27) dX12_isAheadOf_27 k_136 (hL 136 (by decide) (by decide)) (⟨by omega, by omega, by decide⟩) ?_
    rw [a1]
    refine x_aloadn (pc := 28) dX12_isAheadOf_28 rfl ?_
    refine x_getR (136) (pc := 29) dX12_isAheadOf_29 fl_X12_34 k_127 (hL 127 (by decide) (by decide)) (f_127_11 hF) ?_
    refine x_bipush (pc := 32) dX12_isAheadOf_32 (by decide) ?_
    refine x_iloadn (pc := 34) dX12_isAheadOf_34 rfl ?_
    refine x_imul (pc := 35) dX12_isAheadOf_35 ?_
    refine x_iload (pc := 36) dX12_isAheadOf_36 rfl ?_
    refine x_iadd (pc := 38) dX12_isAheadOf_38 ?_
    refine x_iload (pc := 39) dX12_isAheadOf_39 rfl ?_
    refine x_iadd (pc := 41) dX12_isAheadOf_41 ?_
    refine x_iald (30 * i + (e + j)) (pc := 42) dX12_isAheadOf_42 k_136 (hL 136 (by decide) (by decide)) (⟨by omega, by omega, by decide⟩) ?_
    rw [b1]
    refine x_cne (tgt := 52) (pc := 43) dX12_isAheadOf_43 (by decide) (by omega) (fun c_43 => ?_) (fun c_43 => ?_)
    · skip
      refine l_mo_ahT hL hF hD hi hn he (by omega) ?_
      rw [if_neg (by omega)] at hz
      by_cases c2 : dl i (fr + j) < dl i (e + j)
      · rw [if_pos ⟨by omega, c2⟩]; rw [decide_eq_true c2] at hz; exact hz
      · rw [if_neg (fun q => c2 q.2)]; rw [decide_eq_false c2] at hz; exact hz
    · skip
      refine x_iinc (pc := 46) dX12_isAheadOf_46 rfl (by decide) rfl ?_
      refine x_goto (tgt := 3) (pc := 49) dX12_isAheadOf_49 (by decide) ?_
      exact ih (j + 1) z (by omega) (by rw [if_pos (by omega)] at hz; exact hz)
theorem c_mo_ah {dn : Nat → Nat} {dl : Nat → Nat → Nat} {i fr n e : Nat} {L : List Nat} {G : Nat → Nat → Int} (hL : x_SL L) (hF : x_Fin xFL G) (hD : mDk dn dl G) (hi : i < 4) (hn : fr + n ≤ dn i) (he : fr ≤ e) (hen : e ≤ fr + n) :
    CM yX12_isAheadOf mX12_isAheadOf 0 0 0 [vR 127, vI i, vI fr, vI n, vI e] L G (qI L fun x G' => x = (if zaf (dl i) fr e (fr + n - e) 0 = true then 1 else 0) ∧ G' = G) := by
  refine Ct.of_X (μ := mX12_isAheadOf) rfl rfl (by decide) (fun h => by cases h) (Nat.le_of_ble_eq_true rfl) rfl ?_
  refine x_iconst (pc := 0) dX12_isAheadOf_0 ?_
  refine x_istore (pc := 1) dX12_isAheadOf_1 (by decide) rfl ?_
  exact l_mo_ah hL hF hD hi hn he (fr + n - e) 0 _ (by omega) rfl
/-- the first n places from fr on are ahead of all their ends -/
def zly (f : Nat → Nat) (fr n : Nat) : Bool := zall (fun k => zaf f fr (fr + (k + 1)) (n - (k + 1)) 0) (n - 1)
def zpb (f : Nat → Nat) (fr : Nat) : Nat → Nat
  | 0 => 1
  | t + 1 => if zly f fr (t + 2) = true then t + 2 else zpb f fr t
theorem zpb_bd (f : Nat → Nat) (fr : Nat) : ∀ t, 1 ≤ zpb f fr t ∧ zpb f fr t ≤ t + 1
  | 0 => by rw [zpb]; omega
  | t + 1 => by have := zpb_bd f fr t; rw [zpb]; split <;> omega
def zpf (f : Nat → Nat) (n fr : Nat) : Nat := zpb f fr (n - fr - 1)
theorem zpf_bd {f : Nat → Nat} {n fr : Nat} (h : fr < n) : 1 ≤ zpf f n fr ∧ fr + zpf f n fr ≤ n := by
  have := zpb_bd f fr (n - fr - 1)
  unfold zpf; omega
theorem l_mo_pfI {dn : Nat → Nat} {dl : Nat → Nat → Nat} {i fr t : Nat} {b : Int} {Q : x_Q} {L : List Nat} {G : Nat → Nat → Int} (hL : x_SL L) (hF : x_Fin xFL G) (hD : mDk dn dl G) (hi : i < 4) (hn : fr + (t + 2) ≤ dn i)
    (cont : ∀ (o : Option (Nat × Int)), X mX12_partFrom 1 0 0 Q 56 [some (vR 127), some (vI i), some (vI fr), some (vI b), some (vI ((t + 2 : Nat) : Int)), some (vI (if zly (dl i) fr (t + 2) = true then 1 else 0)), o] [] L G 0 0) :
    ∀ (r k : Nat) (z : Bool) (F : Int), k + r = t + 1 → zall (fun k => zaf (dl i) fr (fr + (k + 1)) (t + 2 - (k + 1)) 0) k = z → F = (if z = true then 1 else 0) → X mX12_partFrom 1 0 0 Q 24 [some (vR 127), some (vI i), some (vI fr), some (vI b), some (vI ((t + 2 : Nat) : Int)), some (vI F), some (vI ((k + 1 : Nat) : Int))] [] L G 0 0 := by
  obtain ⟨d1, d2, d3⟩ := hD i hi
  have allf : ∀ (r k : Nat), k + r = t + 1 → zall (fun k => zaf (dl i) fr (fr + (k + 1)) (t + 2 - (k + 1)) 0) k = false → zly (dl i) fr (t + 2) = false := by
    intro r
    induction r with
    | zero => intro k hk h; unfold zly; rw [show t + 2 - 1 = k by omega]; exact h
    | succ r ih => intro k hk h; exact ih (k + 1) (by omega) (by rw [zall, h]; rfl)
  intro r
  induction r with
  | zero =>
    intro k z F hk hz hFF
    have e : zly (dl i) fr (t + 2) = z := by unfold zly; rw [show t + 2 - 1 = k by omega]; exact hz
    rw [e, ← hFF] at cont
    cases z with
    | false =>
      have hFF : F = 0 := hFF
      subst hFF
      refine x_iload (pc := 24) dX12_partFrom_24 rfl ?_
      refine x_ieq (tgt := 56) (pc := 26) dX12_partFrom_26 (by decide) (by omega) (fun c_26 => ?_) (fun c_26 => ?_)
      rotate_left
      · skip
        exact absurd rfl c_26
      exact cont _
    | true =>
      have hFF : F = 1 := hFF
      subst hFF
      refine x_iload (pc := 24) dX12_partFrom_24 rfl ?_
      refine x_ieq (tgt := 56) (pc := 26) dX12_partFrom_26 (by decide) (by omega) (fun c_26 => ?_) (fun c_26 => ?_)
      · skip
        exact absurd c_26 (by decide)
      refine x_iload (pc := 29) dX12_partFrom_29 rfl ?_
      refine x_iload (pc := 31) dX12_partFrom_31 rfl ?_
      refine x_cge (tgt := 56) (pc := 33) dX12_partFrom_33 (by decide) (by omega) (fun c_33 => ?_) (fun c_33 => ?_)
      rotate_left
      · skip
        exact absurd c_33 (by omega)
      exact cont _
  | succ r ih =>
    intro k z F hk hz hFF
    cases z with
    | false =>
      have hFF : F = 0 := hFF
      subst hFF
      rw [allf (r + 1) k hk hz] at cont
      refine x_iload (pc := 24) dX12_partFrom_24 rfl ?_
      refine x_ieq (tgt := 56) (pc := 26) dX12_partFrom_26 (by decide) (by omega) (fun c_26 => ?_) (fun c_26 => ?_)
      rotate_left
      · skip
        exact absurd rfl c_26
      exact cont _
    | true =>
      have hFF : F = 1 := hFF
      subst hFF
      refine x_iload (pc := 24) dX12_partFrom_24 rfl ?_
      refine x_ieq (tgt := 56) (pc := 26) dX12_partFrom_26 (by decide) (by omega) (fun c_26 => ?_) (fun c_26 => ?_)
      · skip
        exact absurd c_26 (by decide)
      refine x_iload (pc := 29) dX12_partFrom_29 rfl ?_
      refine x_iload (pc := 31) dX12_partFrom_31 rfl ?_
      refine x_cge (tgt := 56) (pc := 33) dX12_partFrom_33 (by decide) (by omega) (fun c_33 => ?_) (fun c_33 => ?_)
      · skip
        exact absurd c_33 (by omega)
      refine x_aloadn (pc := 36) dX12_partFrom_36 rfl ?_
      refine x_iloadn (pc := 37) dX12_partFrom_37 rfl ?_
      refine x_iloadn (pc := 38) dX12_partFrom_38 rfl ?_
      refine x_iload (pc := 39) dX12_partFrom_39 rfl ?_
      refine x_iloadn (pc := 41) dX12_partFrom_41 rfl ?_
      refine x_iload (pc := 42) dX12_partFrom_42 rfl ?_
      refine x_iadd (pc := 44) dX12_partFrom_44 ?_
      refine x_cVI (pc := 45) dX12_partFrom_45 lk_X12_298 (c_mo_ah (fr := fr) (n := t + 2) (e := fr + (k + 1)) hL hF hD hi (by omega) (by omega) (by omega)) k_127 ⟨by decide, rfl⟩ (hL 127 (by decide) (by decide)) (⟨by decide, by decide⟩) (Nat.le_of_ble_eq_true rfl) rfl ?_
      rintro x G' ⟨rfl, rfl⟩
      refine x_istore (pc := 48) dX12_partFrom_48 (by decide) rfl ?_
      refine x_iinc (pc := 50) dX12_partFrom_50 rfl (by decide) rfl ?_
      refine x_goto (tgt := 24) (pc := 53) dX12_partFrom_53 (by decide) ?_
      refine ih (k + 1) _ _ (by omega) rfl ?_
      rw [zall, hz, Bool.true_and, show fr + (t + 2) - (fr + (k + 1)) = t + 2 - (k + 1) by omega]
theorem l_mo_pf {dn : Nat → Nat} {dl : Nat → Nat → Nat} {i fr : Nat} {L : List Nat} {G : Nat → Nat → Int} (hL : x_SL L) (hF : x_Fin xFL G) (hD : mDk dn dl G) (hi : i < 4) (hfr : fr < dn i) :
    ∀ (r t : Nat) (o5 o6 : Option (Nat × Int)), t + r = dn i - fr - 1 → X mX12_partFrom 1 0 0 (qI L fun x G' => x = zpf (dl i) (dn i) fr ∧ G' = G) 5 [some (vR 127), some (vI i), some (vI fr), some (vI (zpb (dl i) fr t)), some (vI ((t + 2 : Nat) : Int)), o5, o6] [] L G 0 0 := by
  obtain ⟨d1, d2, d3⟩ := hD i hi
  intro r
  induction r with
  | zero =>
    intro t o5 o6 ht
    refine x_iloadn (pc := 5) dX12_partFrom_5 rfl ?_
    refine x_iload (pc := 6) dX12_partFrom_6 rfl ?_
    refine x_iadd (pc := 8) dX12_partFrom_8 ?_
    refine x_aloadn (pc := 9) dX12_partFrom_9 rfl ?_
    refine x_getR (137) (pc := 10) dX12_partFrom_10 fl_X12_37 k_127 (hL 127 (by decide) (by decide)) (f_127_12 hF) ?_
    refine x_iloadn (pc := 13) dX12_partFrom_13 rfl ?_
    refine x_iald (i) (pc := 14) dX12_partFrom_14 k_137 (hL 137 (by decide) (by decide)) (⟨by omega, by omega, by decide⟩) ?_
    refine x_cgt (tgt := 74) (pc := 15) dX12_partFrom_15 (by decide) (by omega) (fun c_15 => ?_) (fun c_15 => ?_)
    rotate_left
    · skip
      exact absurd c_15 (by omega)
    refine x_iloadn (pc := 74) dX12_partFrom_74 rfl ?_
    refine x_rI (pc := 75) dX12_partFrom_75 rfl ?_
    exact ⟨by unfold zpf; rw [show dn i - fr - 1 = t by omega], rfl⟩
  | succ r ih =>
    intro t o5 o6 ht
    refine x_iloadn (pc := 5) dX12_partFrom_5 rfl ?_
    refine x_iload (pc := 6) dX12_partFrom_6 rfl ?_
    refine x_iadd (pc := 8) dX12_partFrom_8 ?_
    refine x_aloadn (pc := 9) dX12_partFrom_9 rfl ?_
    refine x_getR (137) (pc := 10) dX12_partFrom_10 fl_X12_37 k_127 (hL 127 (by decide) (by decide)) (f_127_12 hF) ?_
    refine x_iloadn (pc := 13) dX12_partFrom_13 rfl ?_
    refine x_iald (i) (pc := 14) dX12_partFrom_14 k_137 (hL 137 (by decide) (by decide)) (⟨by omega, by omega, by decide⟩) ?_
    refine x_cgt (tgt := 74) (pc := 15) dX12_partFrom_15 (by decide) (by omega) (fun c_15 => ?_) (fun c_15 => ?_)
    · skip
      exact absurd c_15 (by omega)
    refine x_iconst (pc := 18) dX12_partFrom_18 ?_
    refine x_istore (pc := 19) dX12_partFrom_19 (by decide) rfl ?_
    refine x_iconst (pc := 21) dX12_partFrom_21 ?_
    refine x_istore (pc := 22) dX12_partFrom_22 (by decide) rfl ?_
    refine l_mo_pfI hL hF hD hi (t := t) (by omega) (fun o => ?_) (t + 1) 0 true 1 (by omega) rfl rfl
    have ih2 := fun o5 o6 => ih (t + 1) o5 o6 (by omega)
    rw [zpb] at ih2
    by_cases c : zly (dl i) fr (t + 2) = true
    · rw [if_pos c] at ih2 ⊢
      refine x_iload (pc := 56) dX12_partFrom_56 rfl ?_
      refine x_ieq (tgt := 66) (pc := 58) dX12_partFrom_58 (by decide) (by decide) (fun q => absurd q (by decide)) (fun _ => ?_)
      refine x_iload (pc := 61) dX12_partFrom_61 rfl ?_
      refine x_goto (tgt := 67) (pc := 63) dX12_partFrom_63 (by decide) ?_
      refine x_istoren (pc := 67) dX12_partFrom_67 rfl (by decide) rfl ?_
      refine x_iinc (pc := 68) dX12_partFrom_68 rfl (by decide) rfl ?_
      refine x_goto (tgt := 5) (pc := 71) dX12_partFrom_71 (by decide) ?_
      exact ih2 _ _
    · rw [if_neg c] at ih2 ⊢
      refine x_iload (pc := 56) dX12_partFrom_56 rfl ?_
      refine x_ieq (tgt := 66) (pc := 58) dX12_partFrom_58 (by decide) (by decide) (fun _ => ?_) (fun q => absurd rfl q)
      refine x_iloadn (pc := 66) dX12_partFrom_66 rfl ?_
      refine x_istoren (pc := 67) dX12_partFrom_67 rfl (by decide) rfl ?_
      refine x_iinc (pc := 68) dX12_partFrom_68 rfl (by decide) rfl ?_
      refine x_goto (tgt := 5) (pc := 71) dX12_partFrom_71 (by decide) ?_
      exact ih2 _ _
theorem c_mo_pf {dn : Nat → Nat} {dl : Nat → Nat → Nat} {i fr : Nat} {L : List Nat} {G : Nat → Nat → Int} (hL : x_SL L) (hF : x_Fin xFL G) (hD : mDk dn dl G) (hi : i < 4) (hfr : fr < dn i) :
    CM yX12_partFrom mX12_partFrom 1 0 0 [vR 127, vI i, vI fr] L G (qI L fun x G' => x = zpf (dl i) (dn i) fr ∧ G' = G) := by
  refine Ct.of_X (μ := mX12_partFrom) rfl rfl (by decide) (fun h => by cases h) (Nat.le_of_ble_eq_true rfl) rfl ?_
  refine x_iconst (pc := 0) dX12_partFrom_0 ?_
  refine x_istoren (pc := 1) dX12_partFrom_1 rfl (by decide) rfl ?_
  refine x_iconst (pc := 2) dX12_partFrom_2 ?_
  refine x_istore (pc := 3) dX12_partFrom_3 (by decide) rfl ?_
  exact l_mo_pf hL hF hD hi hfr (dn i - fr - 1) 0 _ _ (by omega)
theorem l_mo_parts {dn : Nat → Nat} {dl : Nat → Nat → Nat} {i : Nat} {L : List Nat} {G : Nat → Nat → Int} (hL : x_SL L) (hF : x_Fin xFL G) (hD : mDk dn dl G) (hi : i < 4) :
    ∀ (k p m z : Nat), dn i < p + k → p ≤ dn i → m ≤ p → zfc (zpf (dl i) (dn i)) (dn i) k p + m = z → X mX12_parts 2 0 0 (qI L fun x G' => x = z ∧ G' = G) 4 [some (vR 127), some (vI i), some (vI m), some (vI p)] [] L G 0 0 := by
  obtain ⟨d1, d2, d3⟩ := hD i hi
  intro k
  induction k with
  | zero => intro p m z hp hpn hm hz; omega
  | succ k ih =>
    intro p m z hp hpn hm hz
    rw [zfc] at hz
    by_cases c : p < dn i
    · rw [if_pos c] at hz
      have hb := zpf_bd (f := dl i) c
      refine x_iloadn (pc := 4) dX12_parts_4 rfl ?_
      refine x_aloadn (pc := 5) dX12_parts_5 rfl ?_
      refine x_getR (137) (pc := 6) dX12_parts_6 fl_X12_37 k_127 (hL 127 (by decide) (by decide)) (f_127_12 hF) ?_
      refine x_iloadn (pc := 9) dX12_parts_9 rfl ?_
      refine x_iald (i) (pc := 10) dX12_parts_10 k_137 (hL 137 (by decide) (by decide)) (⟨by omega, by omega, by decide⟩) ?_
      refine x_cge (tgt := 29) (pc := 11) dX12_parts_11 (by decide) (by omega) (fun c_11 => ?_) (fun c_11 => ?_)
      · skip
        exact absurd c_11 (by omega)
      refine x_iinc (pc := 14) dX12_parts_14 rfl (by decide) rfl ?_
      refine x_iloadn (pc := 17) dX12_parts_17 rfl ?_
      refine x_aloadn (pc := 18) dX12_parts_18 rfl ?_
      refine x_iloadn (pc := 19) dX12_parts_19 rfl ?_
      refine x_iloadn (pc := 20) dX12_parts_20 rfl ?_
      refine x_cVI (pc := 21) dX12_parts_21 lk_X12_302 (c_mo_pf hL hF hD hi c) k_127 ⟨by decide, rfl⟩ (hL 127 (by decide) (by decide)) (⟨by decide, by decide⟩) (Nat.le_of_ble_eq_true rfl) rfl ?_
      rintro x G' ⟨rfl, rfl⟩
      refine x_iadd (pc := 24) dX12_parts_24 ?_
      refine x_istoren (pc := 25) dX12_parts_25 rfl (by decide) rfl ?_
      refine x_goto (tgt := 4) (pc := 26) dX12_parts_26 (by decide) ?_
      exact ih (p + zpf (dl i) (dn i) p) (m + 1) z (by omega) (by omega) (by omega) (by omega)
    · rw [if_neg c] at hz
      refine x_iloadn (pc := 4) dX12_parts_4 rfl ?_
      refine x_aloadn (pc := 5) dX12_parts_5 rfl ?_
      refine x_getR (137) (pc := 6) dX12_parts_6 fl_X12_37 k_127 (hL 127 (by decide) (by decide)) (f_127_12 hF) ?_
      refine x_iloadn (pc := 9) dX12_parts_9 rfl ?_
      refine x_iald (i) (pc := 10) dX12_parts_10 k_137 (hL 137 (by decide) (by decide)) (⟨by omega, by omega, by decide⟩) ?_
      refine x_cge (tgt := 29) (pc := 11) dX12_parts_11 (by decide) (by omega) (fun c_11 => ?_) (fun c_11 => ?_)
      rotate_left
      · skip
        exact absurd c_11 (by omega)
      refine x_iloadn (pc := 29) dX12_parts_29 rfl ?_
      refine x_rI (pc := 30) dX12_parts_30 rfl ?_
      exact ⟨by omega, rfl⟩
theorem c_mo_parts {dn : Nat → Nat} {dl : Nat → Nat → Nat} {i : Nat} {L : List Nat} {G : Nat → Nat → Int} (hL : x_SL L) (hF : x_Fin xFL G) (hD : mDk dn dl G) (hi : i < 4) :
    CM yX12_parts mX12_parts 2 0 0 [vR 127, vI i] L G (qI L fun x G' => x = zfc (zpf (dl i) (dn i)) (dn i) (dn i + 1) 0 ∧ G' = G) := by
  refine Ct.of_X (μ := mX12_parts) rfl rfl (by decide) (fun h => by cases h) (Nat.le_of_ble_eq_true rfl) rfl ?_
  refine x_iconst (pc := 0) dX12_parts_0 ?_
  refine x_istoren (pc := 1) dX12_parts_1 rfl (by decide) rfl ?_
  refine x_iconst (pc := 2) dX12_parts_2 ?_
  refine x_istoren (pc := 3) dX12_parts_3 rfl (by decide) rfl ?_
  exact l_mo_parts hL hF hD hi (dn i + 1) 0 0 _ (by omega) (by omega) (by omega) rfl

