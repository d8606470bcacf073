/-! the reference: lengths and places of sides, lengths given -/
theorem zrw_at {I : Nat → Nat → Nat} {q t : Nat} {z : Nat → Nat} {i : Nat} (h1 : yof I q z i ≤ t) (h2 : t < yof I q z (i + 1)) : ∀ n, i + 1 ≤ n → zrw I q z n t = if I q i < 4 then I q i else 3 + zbg z (I q i - 4) + (t - yof I q z i)
  | 0, h => absurd h (by omega)
  | n + 1, h => by
    have mono : ∀ k, i + 1 ≤ k → yof I q z (i + 1) ≤ yof I q z k := by
      intro k hk
      induction k with
      | zero => omega
      | succ k ih =>
        by_cases e : i = k
        · subst e; exact Nat.le_refl _
        · have := ih (by omega)
          have e2 : yof I q z (k + 1) = yof I q z k + (if I q k < 4 then 1 else z (I q k - 4)) := rfl
          omega
    show (if t < yof I q z n then zrw I q z n t else if I q n < 4 then I q n else 3 + zbg z (I q n - 4) + (t - yof I q z n)) = _
    by_cases e : i = n
    · subst e; rw [if_neg (by omega)]
    · have := mono n (by omega)
      rw [if_pos (by omega)]
      exact zrw_at h1 h2 n (by omega)
section XMP
variable {m : Nat} {S : Nat → Nat} {I : Nat → Nat → Nat} {z g : Nat → Nat} {L : List Nat}
theorem l_mo_len {G : Nat → Nat → Int} {q : Nat} (hL : x_SL L) (hF : x_Fin xFL G) (hE : mEq m S I G) (hz : mFL z G) (hq : q < 2 * m) :
    ∀ (r i : Nat) (o4 : Option (Nat × Int)), i + r = S q → X mX12_lengthOf 0 0 0 (qI L fun x G' => x = ((yof I q z (S q) : Nat) : Int) ∧ G' = G) 4 [some (vR 127), some (vI q), some (vI ((yof I q z i : Nat) : Int)), some (vI i), o4] [] L G 0 0 := by
  obtain ⟨h1, h2, h3⟩ := id hE
  obtain ⟨s1, s2, s3⟩ := h3 q hq
  intro r
  induction r with
  | zero =>
    intro i o4 hi
    have hi : i = S q := by omega
    subst hi
    refine x_iloadn (pc := 4) dX12_lengthOf_4 rfl ?_
    refine x_aloadn (pc := 5) dX12_lengthOf_5 rfl ?_
    refine x_getR (130) (pc := 6) dX12_lengthOf_6 fl_X12_16 k_127 (hL 127 (by decide) (by decide)) (f_127_3 hF) ?_
    refine x_iloadn (pc := 9) dX12_lengthOf_9 rfl ?_
    refine x_iald (q) (pc := 10) dX12_lengthOf_10 k_130 (hL 130 (by decide) (by decide)) (⟨by omega, by omega, by decide⟩) ?_
    refine x_cge (tgt := 55) (pc := 11) dX12_lengthOf_11 (by decide) (by omega) (fun c_11 => ?_) (fun c_11 => ?_)
    rotate_left
    · skip
      exact absurd c_11 (by omega)
    refine x_iloadn (pc := 55) dX12_lengthOf_55 rfl ?_
    refine x_rI (pc := 56) dX12_lengthOf_56 rfl ?_
    exact ⟨rfl, rfl⟩
  | succ r ih =>
    intro i o4 hi
    obtain ⟨t1, t2, t3⟩ := s3 i (by omega)
    have hof := zof_96 (fun u hu => (hz u hu).2) (fun j hj => (s3 j hj).2) i (by omega)
    have hy : yof I q z (i + 1) = yof I q z i + (if I q i < 4 then 1 else z (I q i - 4)) := rfl
    have hzu := fun h => hz (I q i - 4) h
    refine x_iloadn (pc := 4) dX12_lengthOf_4 rfl ?_
    refine x_aloadn (pc := 5) dX12_lengthOf_5 rfl ?_
    refine x_getR (130) (pc := 6) dX12_lengthOf_6 fl_X12_16 k_127 (hL 127 (by decide) (by decide)) (f_127_3 hF) ?_
    refine x_iloadn (pc := 9) dX12_lengthOf_9 rfl ?_
    refine x_iald (q) (pc := 10) dX12_lengthOf_10 k_130 (hL 130 (by decide) (by decide)) (⟨by omega, by omega, by decide⟩) ?_
    refine x_cge (tgt := 55) (pc := 11) dX12_lengthOf_11 (by decide) (by omega) (fun c_11 => ?_) (fun c_11 => ?_)
    · skip
      exact absurd c_11 (by omega)
    refine x_aloadn (pc := 14) dX12_lengthOf_14 rfl ?_
    refine x_getR (129) (pc := 15) dX12_lengthOf_15 fl_X12_13 k_127 (hL 127 (by decide) (by decide)) (f_127_2 hF) ?_
    refine x_bipush (pc := 18) dX12_lengthOf_18 (by decide) ?_
    refine x_iloadn (pc := 20) dX12_lengthOf_20 rfl ?_
    refine x_imul (pc := 21) dX12_lengthOf_21 ?_
    refine x_iloadn (pc := 22) dX12_lengthOf_22 rfl ?_
    refine x_iadd (pc := 23) dX12_lengthOf_23 ?_
    refine x_iald (12 * q + i) (pc := 24) dX12_lengthOf_24 k_129 (hL 129 (by decide) (by decide)) (⟨by omega, by omega, by decide⟩) ?_
    rw [t1]
    refine x_istore (pc := 25) dX12_lengthOf_25 (by decide) rfl ?_
    refine x_iloadn (pc := 27) dX12_lengthOf_27 rfl ?_
    refine x_iload (pc := 28) dX12_lengthOf_28 rfl ?_
    refine x_iconst (pc := 30) dX12_lengthOf_30 ?_
    refine x_cle (tgt := 46) (pc := 31) dX12_lengthOf_31 (by decide) (by omega) (fun c_31 => ?_) (fun c_31 => ?_)
    · skip
      rw [if_pos (by omega)] at hy
      refine x_iconst (pc := 46) dX12_lengthOf_46 ?_
      refine x_iadd (pc := 47) dX12_lengthOf_47 ?_
      refine x_istoren (pc := 48) dX12_lengthOf_48 rfl (by decide) rfl ?_
      refine x_iinc (pc := 49) dX12_lengthOf_49 rfl (by decide) rfl ?_
      refine x_goto (tgt := 4) (pc := 52) dX12_lengthOf_52 (by decide) ?_
      first
      | (rw [show ((yof I q z i : Nat) : Int) + 1 = ((yof I q z (i + 1) : Nat) : Int) by omega]
         exact ih (i + 1) _ (by omega))
      | (rw [show ((yof I q z i : Nat) : Int) + ((z (I q i - 4) : Nat) : Int) = ((yof I q z (i + 1) : Nat) : Int) by omega]
         exact ih (i + 1) _ (by omega))
    · skip
      refine x_aloadn (pc := 34) dX12_lengthOf_34 rfl ?_
      refine x_getR (144) (pc := 35) dX12_lengthOf_35 fl_X12_58 k_127 (hL 127 (by decide) (by decide)) (f_127_20 hF) ?_
      refine x_iload (pc := 38) dX12_lengthOf_38 rfl ?_
      refine x_iconst (pc := 40) dX12_lengthOf_40 ?_
      refine x_isub (pc := 41) dX12_lengthOf_41 ?_
      rw [if_neg (by omega)] at hy
      obtain ⟨k1, k2⟩ := hzu (by omega)
      refine x_iald (I q i - 4) (pc := 42) dX12_lengthOf_42 k_144 (hL 144 (by decide) (by decide)) (⟨by omega, by omega, by decide⟩) ?_
      rw [k1]
      refine x_goto (tgt := 47) (pc := 43) dX12_lengthOf_43 (by decide) ?_
      refine x_iadd (pc := 47) dX12_lengthOf_47 ?_
      refine x_istoren (pc := 48) dX12_lengthOf_48 rfl (by decide) rfl ?_
      refine x_iinc (pc := 49) dX12_lengthOf_49 rfl (by decide) rfl ?_
      refine x_goto (tgt := 4) (pc := 52) dX12_lengthOf_52 (by decide) ?_
      first
      | (rw [show ((yof I q z i : Nat) : Int) + 1 = ((yof I q z (i + 1) : Nat) : Int) by omega]
         exact ih (i + 1) _ (by omega))
      | (rw [show ((yof I q z i : Nat) : Int) + ((z (I q i - 4) : Nat) : Int) = ((yof I q z (i + 1) : Nat) : Int) by omega]
         exact ih (i + 1) _ (by omega))
theorem c_mo_lengthOf {G : Nat → Nat → Int} {q : Nat} (hL : x_SL L) (hF : x_Fin xFL G) (hE : mEq m S I G) (hz : mFL z G) (hq : q < 2 * m) :
    CM yX12_lengthOf mX12_lengthOf 0 0 0 [vR 127, vI q] L G (qI L fun x G' => x = ((yof I q z (S q) : Nat) : Int) ∧ G' = G) := by
  refine Ct.of_X (μ := mX12_lengthOf) rfl rfl (by decide) (fun h => by cases h) (Nat.le_of_ble_eq_true rfl) rfl ?_
  refine x_iconst (pc := 0) dX12_lengthOf_0 ?_
  refine x_istoren (pc := 1) dX12_lengthOf_1 rfl (by decide) rfl ?_
  refine x_iconst (pc := 2) dX12_lengthOf_2 ?_
  refine x_istoren (pc := 3) dX12_lengthOf_3 rfl (by decide) rfl ?_
  exact l_mo_len hL hF hE hz hq (S q) 0 _ (by omega)
theorem l_mo_placeE {G : Nat → Nat → Int} {q t i : Nat} {o6 o7 : Option (Nat × Int)} (hL : x_SL L) (hF : x_Fin xFL G) (hE : mEq m S I G) (hz : mFL z G) (hb : mBg z G) (hq : q < 2 * m) (hi : i < S q) (hle : yof I q z i ≤ t) (hlt : t < yof I q z (i + 1)) :
    X mX12_placeAt 0 0 0 (qI L fun x G' => x = ((zrf (zrw I q z (S q) t) : Nat) : Int) ∧ G' = G) 8 [some (vR 127), some (vI q), some (vI t), some (vI ((t - yof I q z i : Nat) : Int)), some (vI i), some (vI 0), o6, o7] [] L G 0 0 := by
  obtain ⟨h1, h2, h3⟩ := id hE
  obtain ⟨s1, s2, s3⟩ := h3 q hq
  obtain ⟨t1, t2, t3⟩ := s3 i hi
  have hy : yof I q z (i + 1) = yof I q z i + (if I q i < 4 then 1 else z (I q i - 4)) := rfl
  have hat := zrw_at hle hlt (S q) (by omega)
  have hbu := fun h => hb (I q i - 4) h
  have hzu := fun h => (hz (I q i - 4) h).2
  have hbl := fun h => zbg_4 (fun u hu => (hz u hu).2) (I q i - 4) h
  refine x_iload (pc := 8) dX12_placeAt_8 rfl ?_
  refine x_ieq (tgt := 71) (pc := 10) dX12_placeAt_10 (by decide) (by omega) (fun c_10 => ?_) (fun c_10 => ?_)
  rotate_left
  · skip
    exact absurd rfl c_10
  refine x_aloadn (pc := 71) dX12_placeAt_71 rfl ?_
  refine x_getR (129) (pc := 72) dX12_placeAt_72 fl_X12_13 k_127 (hL 127 (by decide) (by decide)) (f_127_2 hF) ?_
  refine x_bipush (pc := 75) dX12_placeAt_75 (by decide) ?_
  refine x_iloadn (pc := 77) dX12_placeAt_77 rfl ?_
  refine x_imul (pc := 78) dX12_placeAt_78 ?_
  refine x_iload (pc := 79) dX12_placeAt_79 rfl ?_
  refine x_iadd (pc := 81) dX12_placeAt_81 ?_
  refine x_iald (12 * q + i) (pc := 82) dX12_placeAt_82 k_129 (hL 129 (by decide) (by decide)) (⟨by omega, by omega, by decide⟩) ?_
  rw [t1]
  refine x_istore (pc := 83) dX12_placeAt_83 (by decide) rfl ?_
  refine x_iload (pc := 85) dX12_placeAt_85 rfl ?_
  refine x_iconst (pc := 87) dX12_placeAt_87 ?_
  refine x_cle (tgt := 105) (pc := 88) dX12_placeAt_88 (by decide) (by omega) (fun c_88 => ?_) (fun c_88 => ?_)
  · skip
    refine x_bipush (pc := 105) dX12_placeAt_105 (by decide) ?_
    refine x_iload (pc := 107) dX12_placeAt_107 rfl ?_
    refine x_iadd (pc := 109) dX12_placeAt_109 ?_
    refine x_rI (pc := 110) dX12_placeAt_110 rfl ?_
    refine ⟨?_, rfl⟩
    first
    | (rw [if_pos (by omega)] at hat
       rw [hat]; unfold zrf
       rw [if_pos (by omega)]; omega)
    | (rw [hat]; unfold zrf
       rw [if_neg (by omega)]; omega)
  · skip
    refine x_aloadn (pc := 91) dX12_placeAt_91 rfl ?_
    refine x_getR (145) (pc := 92) dX12_placeAt_92 fl_X12_61 k_127 (hL 127 (by decide) (by decide)) (f_127_21 hF) ?_
    refine x_iload (pc := 95) dX12_placeAt_95 rfl ?_
    refine x_iconst (pc := 97) dX12_placeAt_97 ?_
    refine x_isub (pc := 98) dX12_placeAt_98 ?_
    have k1 := hbu (by omega)
    refine x_iald (I q i - 4) (pc := 99) dX12_placeAt_99 k_145 (hL 145 (by decide) (by decide)) (⟨by omega, by omega, by decide⟩) ?_
    rw [k1]
    rw [if_neg (by omega)] at hat hy
    have k2 := hzu (by omega)
    have k3 := hbl (by omega)
    refine x_iloadn (pc := 100) dX12_placeAt_100 rfl ?_
    refine x_iadd (pc := 101) dX12_placeAt_101 ?_
    refine x_goto (tgt := 110) (pc := 102) dX12_placeAt_102 (by decide) ?_
    refine x_rI (pc := 110) dX12_placeAt_110 rfl ?_
    refine ⟨?_, rfl⟩
    first
    | (rw [if_pos (by omega)] at hat
       rw [hat]; unfold zrf
       rw [if_pos (by omega)]; omega)
    | (rw [hat]; unfold zrf
       rw [if_neg (by omega)]; omega)
theorem l_mo_place {G : Nat → Nat → Int} {q t : Nat} (hL : x_SL L) (hF : x_Fin xFL G) (hE : mEq m S I G) (hz : mFL z G) (hb : mBg z G) (hq : q < 2 * m) (ht : t < yof I q z (S q)) :
    ∀ (r i : Nat) (o6 o7 : Option (Nat × Int)), i + r = S q → yof I q z i ≤ t → X mX12_placeAt 0 0 0 (qI L fun x G' => x = ((zrf (zrw I q z (S q) t) : Nat) : Int) ∧ G' = G) 8 [some (vR 127), some (vI q), some (vI t), some (vI ((t - yof I q z i : Nat) : Int)), some (vI i), some (vI 1), o6, o7] [] L G 0 0 := by
  obtain ⟨h1, h2, h3⟩ := id hE
  obtain ⟨s1, s2, s3⟩ := h3 q hq
  intro r
  induction r with
  | zero =>
    intro i o6 o7 hi hy
    have hi : i = S q := by omega
    subst hi
    omega
  | succ r ih =>
    intro i o6 o7 hi hle
    obtain ⟨t1, t2, t3⟩ := s3 i (by omega)
    have hof := zof_96 (fun u hu => (hz u hu).2) (fun j hj => (s3 j hj).2) (S q) (Nat.le_refl _)
    have hy : yof I q z (i + 1) = yof I q z i + (if I q i < 4 then 1 else z (I q i - 4)) := rfl
    have hzu := fun h => hz (I q i - 4) h
    refine x_iload (pc := 8) dX12_placeAt_8 rfl ?_
    refine x_ieq (tgt := 71) (pc := 10) dX12_placeAt_10 (by decide) (by omega) (fun c_10 => ?_) (fun c_10 => ?_)
    · skip
      exact absurd c_10 (by omega)
    refine x_aloadn (pc := 13) dX12_placeAt_13 rfl ?_
    refine x_getR (129) (pc := 14) dX12_placeAt_14 fl_X12_13 k_127 (hL 127 (by decide) (by decide)) (f_127_2 hF) ?_
    refine x_bipush (pc := 17) dX12_placeAt_17 (by decide) ?_
    refine x_iloadn (pc := 19) dX12_placeAt_19 rfl ?_
    refine x_imul (pc := 20) dX12_placeAt_20 ?_
    refine x_iload (pc := 21) dX12_placeAt_21 rfl ?_
    refine x_iadd (pc := 23) dX12_placeAt_23 ?_
    refine x_iald (12 * q + i) (pc := 24) dX12_placeAt_24 k_129 (hL 129 (by decide) (by decide)) (⟨by omega, by omega, by decide⟩) ?_
    rw [t1]
    refine x_istore (pc := 25) dX12_placeAt_25 (by decide) rfl ?_
    refine x_iload (pc := 27) dX12_placeAt_27 rfl ?_
    refine x_iconst (pc := 29) dX12_placeAt_29 ?_
    refine x_cle (tgt := 45) (pc := 30) dX12_placeAt_30 (by decide) (by omega) (fun c_30 => ?_) (fun c_30 => ?_)
    · skip
      rw [if_pos (by omega)] at hy
      refine x_iconst (pc := 45) dX12_placeAt_45 ?_
      refine x_istore (pc := 46) dX12_placeAt_46 (by decide) rfl ?_
      refine x_iloadn (pc := 48) dX12_placeAt_48 rfl ?_
      refine x_iload (pc := 49) dX12_placeAt_49 rfl ?_
      refine x_cge (tgt := 60) (pc := 51) dX12_placeAt_51 (by decide) (by omega) (fun c_51 => ?_) (fun c_51 => ?_)
      · skip
        refine x_iloadn (pc := 60) dX12_placeAt_60 rfl ?_
        refine x_iload (pc := 61) dX12_placeAt_61 rfl ?_
        refine x_isub (pc := 63) dX12_placeAt_63 ?_
        refine x_istoren (pc := 64) dX12_placeAt_64 rfl (by decide) rfl ?_
        refine x_iinc (pc := 65) dX12_placeAt_65 rfl (by decide) rfl ?_
        refine x_goto (tgt := 8) (pc := 68) dX12_placeAt_68 (by decide) ?_
        first
        | (rw [show ((t - yof I q z i : Nat) : Int) - 1 = ((t - yof I q z (i + 1) : Nat) : Int) by omega]
           exact ih (i + 1) _ _ (by omega) (by omega))
        | (rw [show ((t - yof I q z i : Nat) : Int) - ((z (I q i - 4) : Nat) : Int) = ((t - yof I q z (i + 1) : Nat) : Int) by omega]
           exact ih (i + 1) _ _ (by omega) (by omega))
        | exact l_mo_placeE hL hF hE hz hb hq (by omega) hle (by omega)
      · skip
        refine x_iconst (pc := 54) dX12_placeAt_54 ?_
        refine x_istore (pc := 55) dX12_placeAt_55 (by decide) rfl ?_
        refine x_goto (tgt := 68) (pc := 57) dX12_placeAt_57 (by decide) ?_
        refine x_goto (tgt := 8) (pc := 68) dX12_placeAt_68 (by decide) ?_
        first
        | (rw [show ((t - yof I q z i : Nat) : Int) - 1 = ((t - yof I q z (i + 1) : Nat) : Int) by omega]
           exact ih (i + 1) _ _ (by omega) (by omega))
        | (rw [show ((t - yof I q z i : Nat) : Int) - ((z (I q i - 4) : Nat) : Int) = ((t - yof I q z (i + 1) : Nat) : Int) by omega]
           exact ih (i + 1) _ _ (by omega) (by omega))
        | exact l_mo_placeE hL hF hE hz hb hq (by omega) hle (by omega)
    · skip
      refine x_aloadn (pc := 33) dX12_placeAt_33 rfl ?_
      refine x_getR (144) (pc := 34) dX12_placeAt_34 fl_X12_58 k_127 (hL 127 (by decide) (by decide)) (f_127_20 hF) ?_
      refine x_iload (pc := 37) dX12_placeAt_37 rfl ?_
      refine x_iconst (pc := 39) dX12_placeAt_39 ?_
      refine x_isub (pc := 40) dX12_placeAt_40 ?_
      rw [if_neg (by omega)] at hy
      have k1 := (hzu (by omega)).1
      have k2 := (hzu (by omega)).2
      refine x_iald (I q i - 4) (pc := 41) dX12_placeAt_41 k_144 (hL 144 (by decide) (by decide)) (⟨by omega, by omega, by decide⟩) ?_
      rw [k1]
      refine x_goto (tgt := 46) (pc := 42) dX12_placeAt_42 (by decide) ?_
      refine x_istore (pc := 46) dX12_placeAt_46 (by decide) rfl ?_
      refine x_iloadn (pc := 48) dX12_placeAt_48 rfl ?_
      refine x_iload (pc := 49) dX12_placeAt_49 rfl ?_
      refine x_cge (tgt := 60) (pc := 51) dX12_placeAt_51 (by decide) (by omega) (fun c_51 => ?_) (fun c_51 => ?_)
      · skip
        refine x_iloadn (pc := 60) dX12_placeAt_60 rfl ?_
        refine x_iload (pc := 61) dX12_placeAt_61 rfl ?_
        refine x_isub (pc := 63) dX12_placeAt_63 ?_
        refine x_istoren (pc := 64) dX12_placeAt_64 rfl (by decide) rfl ?_
        refine x_iinc (pc := 65) dX12_placeAt_65 rfl (by decide) rfl ?_
        refine x_goto (tgt := 8) (pc := 68) dX12_placeAt_68 (by decide) ?_
        first
        | (rw [show ((t - yof I q z i : Nat) : Int) - 1 = ((t - yof I q z (i + 1) : Nat) : Int) by omega]
           exact ih (i + 1) _ _ (by omega) (by omega))
        | (rw [show ((t - yof I q z i : Nat) : Int) - ((z (I q i - 4) : Nat) : Int) = ((t - yof I q z (i + 1) : Nat) : Int) by omega]
           exact ih (i + 1) _ _ (by omega) (by omega))
        | exact l_mo_placeE hL hF hE hz hb hq (by omega) hle (by omega)
      · skip
        refine x_iconst (pc := 54) dX12_placeAt_54 ?_
        refine x_istore (pc := 55) dX12_placeAt_55 (by decide) rfl ?_
        refine x_goto (tgt := 68) (pc := 57) dX12_placeAt_57 (by decide) ?_
        refine x_goto (tgt := 8) (pc := 68) dX12_placeAt_68 (by decide) ?_
        first
        | (rw [show ((t - yof I q z i : Nat) : Int) - 1 = ((t - yof I q z (i + 1) : Nat) : Int) by omega]
           exact ih (i + 1) _ _ (by omega) (by omega))
        | (rw [show ((t - yof I q z i : Nat) : Int) - ((z (I q i - 4) : Nat) : Int) = ((t - yof I q z (i + 1) : Nat) : Int) by omega]
           exact ih (i + 1) _ _ (by omega) (by omega))
        | exact l_mo_placeE hL hF hE hz hb hq (by omega) hle (by omega)
theorem c_mo_placeAt {G : Nat → Nat → Int} {q t : Nat} (hL : x_SL L) (hF : x_Fin xFL G) (hE : mEq m S I G) (hz : mFL z G) (hb : mBg z G) (hq : q < 2 * m) (ht : t < yof I q z (S q)) :
    CM yX12_placeAt mX12_placeAt 0 0 0 [vR 127, vI q, vI t] L G (qI L fun x G' => x = ((zrf (zrw I q z (S q) t) : Nat) : Int) ∧ G' = G) := by
  refine Ct.of_X (μ := mX12_placeAt) rfl rfl (by decide) (fun h => by cases h) (Nat.le_of_ble_eq_true rfl) rfl ?_
  refine x_iloadn (pc := 0) dX12_placeAt_0 rfl ?_
  refine x_istoren (pc := 1) dX12_placeAt_1 rfl (by decide) rfl ?_
  refine x_iconst (pc := 2) dX12_placeAt_2 ?_
  refine x_istore (pc := 3) dX12_placeAt_3 (by decide) rfl ?_
  refine x_iconst (pc := 5) dX12_placeAt_5 ?_
  refine x_istore (pc := 6) dX12_placeAt_6 (by decide) rfl ?_
  exact l_mo_place hL hF hE hz hb hq ht (S q) 0 _ _ (by omega) (Nat.zero_le _)
end XMP

