/-! the class: rows that make all samples -/
section XCC
variable {S n : Nat} {sn : Nat → Nat} {sl : Nat → Nat → Nat} {L : List Nat}
theorem c_Sm_lenX {s T : Nat} {G : Nat → Nat → Int} (hL : x_SL L) (hF : x_Fin xFL G) (hS : cSm S sn sl G) (hs : s < S) (hn : n ≤ 8) (hT : 1 ≤ T ∧ T ≤ n) :
    CM yX7_lengthOfX mX7_lengthOfX 0 0 0 [vR 88, vI s, vI n, vI T] L G (qI L fun x G' => ((x = -1 ∧ ∀ len, 1 ≤ len → (n - T) + len * T ≠ sn s) ∨ ∃ len : Nat, x = len ∧ 1 ≤ len ∧ (n - T) + len * T = sn s) ∧ G' = G) := by
  obtain ⟨s1, s2, s3⟩ := hS
  obtain ⟨e1, e2, e3, e4⟩ := s3 s hs
  refine Ct.of_X (μ := mX7_lengthOfX) rfl rfl (by decide) (fun h => by cases h) (Nat.le_of_ble_eq_true rfl) rfl ?_
  by_cases c : 0 ≤ (sn s : Int) - ((n : Int) - T)
  · have hq := Int.ediv_nonneg c (show (0 : Int) ≤ T by omega)
    refine x_aloadn (pc := 0) dX7_lengthOfX_0 rfl ?_
    refine x_getR (96) (pc := 1) dX7_lengthOfX_1 fl_X7_16 k_88 (hL 88 (by decide) (by decide)) (f_88_1 hF) ?_
    refine x_iloadn (pc := 4) dX7_lengthOfX_4 rfl ?_
    refine x_iald (s) (pc := 5) dX7_lengthOfX_5 k_96 (hL 96 (by decide) (by decide)) (⟨rfl, by omega, by decide⟩) ?_
    rw [e1]
    refine x_iloadn (pc := 6) dX7_lengthOfX_6 rfl ?_
    refine x_iloadn (pc := 7) dX7_lengthOfX_7 rfl ?_
    refine x_isub (pc := 8) dX7_lengthOfX_8 ?_
    refine x_isub (pc := 9) dX7_lengthOfX_9 ?_
    refine x_istore (pc := 10) dX7_lengthOfX_10 (by decide) rfl ?_
    refine x_iloadn (pc := 12) dX7_lengthOfX_12 rfl ?_
    refine x_ile (tgt := 36) (pc := 13) dX7_lengthOfX_13 (by decide) (by omega) (fun c_13 => ?_) (fun c_13 => ?_)
    · skip
      have bad : ∀ len, 1 ≤ len → (n - T) + len * T ≠ sn s := fun len hl w => by
        have h9 := Nat.le_mul_of_pos_left T hl
        first
        | omega
        | (apply c_26
           rw [show (sn s : Int) - ((n : Int) - T) = (len : Int) * (T : Int) by omega]
           exact Int.mul_emod_left _ _)
      refine x_iconst (pc := 36) dX7_lengthOfX_36 ?_
      refine x_rI (pc := 37) dX7_lengthOfX_37 rfl ?_
      first
      | exact ⟨Or.inl ⟨rfl, bad⟩, rfl⟩
      | exact ⟨Or.inr ⟨z, hz, hzp, by omega⟩, rfl⟩
    · skip
      refine x_iload (pc := 16) dX7_lengthOfX_16 rfl ?_
      refine x_iloadn (pc := 18) dX7_lengthOfX_18 rfl ?_
      refine x_clt (tgt := 36) (pc := 19) dX7_lengthOfX_19 (by decide) (by omega) (fun c_19 => ?_) (fun c_19 => ?_)
      · skip
        have bad : ∀ len, 1 ≤ len → (n - T) + len * T ≠ sn s := fun len hl w => by
          have h9 := Nat.le_mul_of_pos_left T hl
          first
          | omega
          | (apply c_26
             rw [show (sn s : Int) - ((n : Int) - T) = (len : Int) * (T : Int) by omega]
             exact Int.mul_emod_left _ _)
        refine x_iconst (pc := 36) dX7_lengthOfX_36 ?_
        refine x_rI (pc := 37) dX7_lengthOfX_37 rfl ?_
        first
        | exact ⟨Or.inl ⟨rfl, bad⟩, rfl⟩
        | exact ⟨Or.inr ⟨z, hz, hzp, by omega⟩, rfl⟩
      · skip
        refine x_iload (pc := 22) dX7_lengthOfX_22 rfl ?_
        refine x_iloadn (pc := 24) dX7_lengthOfX_24 rfl ?_
        refine x_irem (pc := 25) dX7_lengthOfX_25 (by omega) ?_
        refine x_ine (tgt := 36) (pc := 26) dX7_lengthOfX_26 (by decide) (by have := Int.emod_lt_of_pos ((sn s : Int) - ((n : Int) - T)) (show (0 : Int) < T by omega); have := Int.emod_nonneg ((sn s : Int) - ((n : Int) - T)) (show (T : Int) ≠ 0 by omega); omega) (fun c_26 => ?_) (fun c_26 => ?_)
        · skip
          have bad : ∀ len, 1 ≤ len → (n - T) + len * T ≠ sn s := fun len hl w => by
            have h9 := Nat.le_mul_of_pos_left T hl
            first
            | omega
            | (apply c_26
               rw [show (sn s : Int) - ((n : Int) - T) = (len : Int) * (T : Int) by omega]
               exact Int.mul_emod_left _ _)
          refine x_iconst (pc := 36) dX7_lengthOfX_36 ?_
          refine x_rI (pc := 37) dX7_lengthOfX_37 rfl ?_
          first
          | exact ⟨Or.inl ⟨rfl, bad⟩, rfl⟩
          | exact ⟨Or.inr ⟨z, hz, hzp, by omega⟩, rfl⟩
        · skip
          obtain ⟨z, hz⟩ : ∃ z : Nat, ((sn s : Int) - ((n : Int) - T)) / (T : Int) = z := ⟨_, (Int.toNat_of_nonneg hq).symm⟩
          have hzm : (z : Int) * (T : Int) = (sn s : Int) - ((n : Int) - T) := by
            rw [← hz]; exact Int.ediv_mul_cancel (Int.dvd_of_emod_eq_zero c_26)
          have hzp : 0 < z := by
            rcases Nat.eq_zero_or_pos z with e | e
            · rw [e] at hzm; omega
            · exact e
          refine x_iload (pc := 29) dX7_lengthOfX_29 rfl ?_
          refine x_iloadn (pc := 31) dX7_lengthOfX_31 rfl ?_
          refine x_idiv (pc := 32) dX7_lengthOfX_32 (by omega) ?_
          refine x_goto (tgt := 37) (pc := 33) dX7_lengthOfX_33 (by decide) ?_
          refine x_rI (pc := 37) dX7_lengthOfX_37 rfl ?_
          first
          | exact ⟨Or.inl ⟨rfl, bad⟩, rfl⟩
          | exact ⟨Or.inr ⟨z, hz, hzp, by omega⟩, rfl⟩
  · skip
    refine x_aloadn (pc := 0) dX7_lengthOfX_0 rfl ?_
    refine x_getR (96) (pc := 1) dX7_lengthOfX_1 fl_X7_16 k_88 (hL 88 (by decide) (by decide)) (f_88_1 hF) ?_
    refine x_iloadn (pc := 4) dX7_lengthOfX_4 rfl ?_
    refine x_iald (s) (pc := 5) dX7_lengthOfX_5 k_96 (hL 96 (by decide) (by decide)) (⟨rfl, by omega, by decide⟩) ?_
    rw [e1]
    refine x_iloadn (pc := 6) dX7_lengthOfX_6 rfl ?_
    refine x_iloadn (pc := 7) dX7_lengthOfX_7 rfl ?_
    refine x_isub (pc := 8) dX7_lengthOfX_8 ?_
    refine x_isub (pc := 9) dX7_lengthOfX_9 ?_
    refine x_istore (pc := 10) dX7_lengthOfX_10 (by decide) rfl ?_
    refine x_iloadn (pc := 12) dX7_lengthOfX_12 rfl ?_
    refine x_ile (tgt := 36) (pc := 13) dX7_lengthOfX_13 (by decide) (by omega) (fun c_13 => ?_) (fun c_13 => ?_)
    · skip
      refine x_iconst (pc := 36) dX7_lengthOfX_36 ?_
      refine x_rI (pc := 37) dX7_lengthOfX_37 rfl ?_
      exact ⟨Or.inl ⟨rfl, fun len hl w => by omega⟩, rfl⟩
    · skip
      refine x_iload (pc := 16) dX7_lengthOfX_16 rfl ?_
      refine x_iloadn (pc := 18) dX7_lengthOfX_18 rfl ?_
      refine x_clt (tgt := 36) (pc := 19) dX7_lengthOfX_19 (by decide) (by omega) (fun c_19 => ?_) (fun c_19 => ?_)
      rotate_left
      · skip
        exfalso; omega
      refine x_iconst (pc := 36) dX7_lengthOfX_36 ?_
      refine x_rI (pc := 37) dX7_lengthOfX_37 rfl ?_
      exact ⟨Or.inl ⟨rfl, fun len hl w => by omega⟩, rfl⟩
theorem l_Sm_lay {mk put : Nat} {G0 : Nat → Nat → Int} (hL : x_SL L) (hS : cSm S sn sl G0) (h0 : 0 < S) (hn : n ≤ 8) (hmk : mk < 256) (hp : put ≤ 8) (ht : zpl mk put n = sn 0) (hp1 : 1 ≤ put) :
    ∀ (r i : Nat) (G : Nat → Nat → Int) (o6 : Option (Nat × Int)), i + r = n → (∀ j, j < i → G 97 j = ztr mk put (sl 0) j) → FR [97] G0 G → x_Fin xFL G →
    X mX7_layTrial 0 0 0 (qV L fun G' => (∀ j, j < n → G' 97 j = ztr mk put (sl 0) j) ∧ FR [97] G0 G' ∧ x_Fin xFL G') 6 [some (vR 88), some (vI n), some (vI mk), some (vI put), some (vI (zpl mk put i)), some (vI i), o6] [] L G 0 0 := by
  obtain ⟨s1, s2, s3⟩ := hS
  obtain ⟨e1, e2, e3, e4⟩ := s3 0 h0
  intro r
  induction r with
  | zero =>
    intro i G o6 hi h hQ hF
    have hi : i = n := by omega
    subst hi
    refine x_iload (pc := 6) dX7_layTrial_6 rfl ?_
    refine x_iloadn (pc := 8) dX7_layTrial_8 rfl ?_
    refine x_cge (tgt := 89) (pc := 9) dX7_layTrial_9 (by decide) (by omega) (fun c_9 => ?_) (fun c_9 => ?_)
    rotate_left
    · skip
      exact absurd c_9 (by omega)
    refine x_rV (pc := 89) dX7_layTrial_89 rfl ?_
    exact ⟨h, hQ, hF⟩
  | succ r ih =>
    intro i G o6 hi h hQ hF
    have hle := zpl_le (mk := mk) (put := put) (show i + 1 ≤ n by omega)
    have hst : zpl mk put (i + 1) = zpl mk put i + (if zbt mk i = 1 then put else 1) := rfl
    have hlt : zpl mk put i < sn 0 := by split at hst <;> omega
    have ew : G 90 (zpl mk put i) = sl 0 (zpl mk put i) := by rw [hQ 90 (by decide)]; exact (e4 _ hlt).1
    have hsh : (mk : Int) / 2 ^ i = ((mk / 2 ^ i : Nat) : Int) := by simp
    have hbt : ((mk / 2 ^ i : Nat) : Int) % 2 = (zbt mk i : Nat) := by unfold zbt; omega
    by_cases c : zbt mk i = 1
    · have hz : ztr mk put (sl 0) i = 5 := if_pos c
      rw [if_pos c] at hst
      refine x_iload (pc := 6) dX7_layTrial_6 rfl ?_
      refine x_iloadn (pc := 8) dX7_layTrial_8 rfl ?_
      refine x_cge (tgt := 89) (pc := 9) dX7_layTrial_9 (by decide) (by omega) (fun c_9 => ?_) (fun c_9 => ?_)
      · skip
        exact absurd c_9 (by omega)
      refine x_iload (pc := 12) dX7_layTrial_12 rfl ?_
      refine x_bipush (pc := 14) dX7_layTrial_14 (by decide) ?_
      refine x_cge (tgt := 89) (pc := 16) dX7_layTrial_16 (by decide) (by omega) (fun c_16 => ?_) (fun c_16 => ?_)
      · skip
        exact absurd c_16 (by omega)
      refine x_iloadn (pc := 19) dX7_layTrial_19 rfl ?_
      refine x_iload (pc := 20) dX7_layTrial_20 rfl ?_
      refine x_ishr (pc := 22) dX7_layTrial_22 i rfl (by omega) (by omega) ?_
      refine x_iconst (pc := 23) dX7_layTrial_23 ?_
      refine x_iandm (pc := 24) dX7_layTrial_24 1 2 (by decide) (by decide) (by decide) ?_
      rw [hsh, hbt]
      refine x_iconst (pc := 25) dX7_layTrial_25 ?_
      refine x_cne (tgt := 33) (pc := 26) dX7_layTrial_26 (by decide) (by omega) (fun c_26 => ?_) (fun c_26 => ?_)
      · skip
        exact absurd c_26 (by omega)
      refine x_iconst (pc := 29) dX7_layTrial_29 ?_
      refine x_goto (tgt := 34) (pc := 30) dX7_layTrial_30 (by decide) ?_
      refine x_istore (pc := 34) dX7_layTrial_34 (by decide) rfl ?_
      refine x_aloadn (pc := 36) dX7_layTrial_36 rfl ?_
      refine x_getR (97) (pc := 37) dX7_layTrial_37 fl_X7_20 k_88 (hL 88 (by decide) (by decide)) (f_88_2 hF) ?_
      refine x_iload (pc := 40) dX7_layTrial_40 rfl ?_
      refine x_iload (pc := 42) dX7_layTrial_42 rfl ?_
      refine x_ine (tgt := 54) (pc := 44) dX7_layTrial_44 (by decide) (by omega) (fun c_44 => ?_) (fun c_44 => ?_)
      rotate_left
      · skip
        exact absurd c_44 (by decide)
      refine x_iconst (pc := 54) dX7_layTrial_54 ?_
      refine x_goto (tgt := 67) (pc := 55) dX7_layTrial_55 (by decide) ?_
      refine x_iastF (i) (pc := 67) dX7_layTrial_67 k_97 (hL 97 (by decide) (by decide)) (⟨by omega, by omega, by decide⟩) hF (fun hF => ?_)
      refine x_iload (pc := 68) dX7_layTrial_68 rfl ?_
      refine x_iload (pc := 70) dX7_layTrial_70 rfl ?_
      refine x_ieq (tgt := 79) (pc := 72) dX7_layTrial_72 (by decide) (by omega) (fun c_72 => ?_) (fun c_72 => ?_)
      · skip
        exact absurd c_72 (by decide)
      refine x_iloadn (pc := 75) dX7_layTrial_75 rfl ?_
      refine x_goto (tgt := 80) (pc := 76) dX7_layTrial_76 (by decide) ?_
      refine x_iadd (pc := 80) dX7_layTrial_80 ?_
      refine x_istore (pc := 81) dX7_layTrial_81 (by decide) rfl ?_
      refine x_iinc (pc := 83) dX7_layTrial_83 rfl (by decide) rfl ?_
      refine x_goto (tgt := 6) (pc := 86) dX7_layTrial_86 (by decide) ?_
      rw [show ((zpl mk put i : Nat) : Int) + (put : Int) = ((zpl mk put (i + 1) : Nat) : Int) by omega]
      refine ih (i + 1) _ _ (by omega) (fun j hj => ?_) (hQ.up (by decide)) hF
      by_cases e : j = i
      · subst e; rw [x_up_s, hz]; rfl
      · rw [x_up_k e]; exact h j (by omega)
    · have hz : ztr mk put (sl 0) i = sl 0 (zpl mk put i) := if_neg c
      have hb01 := zbt_01 mk i
      rw [if_neg c] at hst
      refine x_iload (pc := 6) dX7_layTrial_6 rfl ?_
      refine x_iloadn (pc := 8) dX7_layTrial_8 rfl ?_
      refine x_cge (tgt := 89) (pc := 9) dX7_layTrial_9 (by decide) (by omega) (fun c_9 => ?_) (fun c_9 => ?_)
      · skip
        exact absurd c_9 (by omega)
      refine x_iload (pc := 12) dX7_layTrial_12 rfl ?_
      refine x_bipush (pc := 14) dX7_layTrial_14 (by decide) ?_
      refine x_cge (tgt := 89) (pc := 16) dX7_layTrial_16 (by decide) (by omega) (fun c_16 => ?_) (fun c_16 => ?_)
      · skip
        exact absurd c_16 (by omega)
      refine x_iloadn (pc := 19) dX7_layTrial_19 rfl ?_
      refine x_iload (pc := 20) dX7_layTrial_20 rfl ?_
      refine x_ishr (pc := 22) dX7_layTrial_22 i rfl (by omega) (by omega) ?_
      refine x_iconst (pc := 23) dX7_layTrial_23 ?_
      refine x_iandm (pc := 24) dX7_layTrial_24 1 2 (by decide) (by decide) (by decide) ?_
      rw [hsh, hbt]
      refine x_iconst (pc := 25) dX7_layTrial_25 ?_
      refine x_cne (tgt := 33) (pc := 26) dX7_layTrial_26 (by decide) (by omega) (fun c_26 => ?_) (fun c_26 => ?_)
      rotate_left
      · skip
        exact absurd c_26 (by omega)
      refine x_iconst (pc := 33) dX7_layTrial_33 ?_
      refine x_istore (pc := 34) dX7_layTrial_34 (by decide) rfl ?_
      refine x_aloadn (pc := 36) dX7_layTrial_36 rfl ?_
      refine x_getR (97) (pc := 37) dX7_layTrial_37 fl_X7_20 k_88 (hL 88 (by decide) (by decide)) (f_88_2 hF) ?_
      refine x_iload (pc := 40) dX7_layTrial_40 rfl ?_
      refine x_iload (pc := 42) dX7_layTrial_42 rfl ?_
      refine x_ine (tgt := 54) (pc := 44) dX7_layTrial_44 (by decide) (by omega) (fun c_44 => ?_) (fun c_44 => ?_)
      · skip
        exact absurd rfl c_44
      refine x_iload (pc := 47) dX7_layTrial_47 rfl ?_
      refine x_bipush (pc := 49) dX7_layTrial_49 (by decide) ?_
      refine x_clt (tgt := 58) (pc := 51) dX7_layTrial_51 (by decide) (by omega) (fun c_51 => ?_) (fun c_51 => ?_)
      rotate_left
      · skip
        exact absurd c_51 (by omega)
      refine x_aloadn (pc := 58) dX7_layTrial_58 rfl ?_
      refine x_getR (89) (pc := 59) dX7_layTrial_59 fl_X7_13 k_88 (hL 88 (by decide) (by decide)) (f_88_0 hF) ?_
      refine x_iconst (pc := 62) dX7_layTrial_62 ?_
      refine x_aald (90) 0 (pc := 63) dX7_layTrial_63 k_89 (by decide) (hL 89 (by decide) (by decide)) (by decide) (f_89_0 hF) ?_
      refine x_iload (pc := 64) dX7_layTrial_64 rfl ?_
      refine x_iald (zpl mk put i) (pc := 66) dX7_layTrial_66 k_90 (hL 90 (by decide) (by decide)) (⟨by omega, by omega, by decide⟩) ?_
      rw [ew]
      refine x_iastF (i) (pc := 67) dX7_layTrial_67 k_97 (hL 97 (by decide) (by decide)) (⟨by omega, by omega, by decide⟩) hF (fun hF => ?_)
      refine x_iload (pc := 68) dX7_layTrial_68 rfl ?_
      refine x_iload (pc := 70) dX7_layTrial_70 rfl ?_
      refine x_ieq (tgt := 79) (pc := 72) dX7_layTrial_72 (by decide) (by omega) (fun c_72 => ?_) (fun c_72 => ?_)
      rotate_left
      · skip
        exact absurd rfl c_72
      refine x_iconst (pc := 79) dX7_layTrial_79 ?_
      refine x_iadd (pc := 80) dX7_layTrial_80 ?_
      refine x_istore (pc := 81) dX7_layTrial_81 (by decide) rfl ?_
      refine x_iinc (pc := 83) dX7_layTrial_83 rfl (by decide) rfl ?_
      refine x_goto (tgt := 6) (pc := 86) dX7_layTrial_86 (by decide) ?_
      rw [show ((zpl mk put i : Nat) : Int) + 1 = ((zpl mk put (i + 1) : Nat) : Int) by omega]
      refine ih (i + 1) _ _ (by omega) (fun j hj => ?_) (hQ.up (by decide)) hF
      by_cases e : j = i
      · subst e; rw [x_up_s, hz]
      · rw [x_up_k e]; exact h j (by omega)
theorem c_Sm_lay {mk put : Nat} {G : Nat → Nat → Int} (hL : x_SL L) (hF : x_Fin xFL G) (hS : cSm S sn sl G) (h0 : 0 < S) (hn : n ≤ 8) (hmk : mk < 256) (hp : put ≤ 8) (ht : zpl mk put n = sn 0) (hp1 : 1 ≤ put) :
    CM yX7_layTrial mX7_layTrial 0 0 0 [vR 88, vI n, vI mk, vI put] L G (qV L fun G' => (∀ j, j < n → G' 97 j = ztr mk put (sl 0) j) ∧ FR [97] G G' ∧ x_Fin xFL G') := by
  refine Ct.of_X (μ := mX7_layTrial) rfl rfl (by decide) (fun h => by cases h) (Nat.le_of_ble_eq_true rfl) rfl ?_
  refine x_iconst (pc := 0) dX7_layTrial_0 ?_
  refine x_istore (pc := 1) dX7_layTrial_1 (by decide) rfl ?_
  refine x_iconst (pc := 3) dX7_layTrial_3 ?_
  refine x_istore (pc := 4) dX7_layTrial_4 (by decide) rfl ?_
  exact l_Sm_lay hL hS h0 hn hmk hp ht hp1 n 0 G none (by omega) (fun j hj => absurd hj (Nat.not_lt_zero j)) FR.rf hF
theorem l_Sm_one {s put : Nat} {F : Nat → Nat} {G : Nat → Nat → Int} (hL : x_SL L) (hF : x_Fin xFL G) (hS : cSm S sn sl G) (hs : s < S) (hn : n ≤ 8) (hv : ∀ i, i < n → F i < 3 ∨ F i = 5) (ht : ∀ i, i < n → G 97 i = F i) (hp1 : 1 ≤ put) (hlen : yof (zFo F) 0 (zpx put) n = sn s) :
    ∀ (r i : Nat), i + r = n → (∀ j, j < i → zMk (zFo F) 0 (zpx put) (sl s) j) →
    X mX7_makesOne 1 0 0 (qI L fun x G' => ((x = 1 ∧ zMa (zFo F) 0 (zpx put) (sl s) n) ∨ (x = 0 ∧ ¬ zMa (zFo F) 0 (zpx put) (sl s) n)) ∧ G' = G) 9 [some (vR 88), some (vI s), some (vI n), some (vI put), some (vI (yst (zFo F) 0 (zpx put) i 1)), some (vI (yof (zFo F) 0 (zpx put) i)), some (vI i)] [] L G 0 0 := by
  obtain ⟨s1, s2, s3⟩ := id hS
  obtain ⟨e1, e2, e3, e4⟩ := s3 s hs
  have hk := sw_k s (by omega)
  intro r
  induction r with
  | zero =>
    intro i hi hM
    have hi : i = n := by omega
    subst hi
    refine x_iload (pc := 9) dX7_makesOne_9 rfl ?_
    refine x_iloadn (pc := 11) dX7_makesOne_11 rfl ?_
    refine x_cge (tgt := 113) (pc := 12) dX7_makesOne_12 (by decide) (by omega) (fun c_12 => ?_) (fun c_12 => ?_)
    rotate_left
    · skip
      exact absurd c_12 (by omega)
    refine x_iconst (pc := 113) dX7_makesOne_113 ?_
    refine x_rZ (pc := 114) dX7_makesOne_114 rfl (by omega) ?_
    exact ⟨Or.inl ⟨rfl, hM⟩, rfl⟩
  | succ r ih =>
    intro i hi hM
    have hle := zof_le (I := zFo F) (q := 0) (p := zpx put) (show i + 1 ≤ n by omega)
    have hof : yof (zFo F) 0 (zpx put) (i + 1) = yof (zFo F) 0 (zpx put) i + (if F i < 4 then 1 else zpx put (F i - 4)) := rfl
    have hzs : yst (zFo F) 0 (zpx put) (i + 1) = if 4 ≤ F i ∧ yst (zFo F) 0 (zpx put) i (F i - 4) = -1 then zup (yst (zFo F) 0 (zpx put) i) (F i - 4) (yof (zFo F) 0 (zpx put) i : Int) else yst (zFo F) 0 (zpx put) i := rfl
    have hti := ht i (by omega)
    rcases hv i (by omega) with c | c
    · rw [if_pos (by omega)] at hof
      rw [if_neg (by omega)] at hzs
      have hmk : zMk (zFo F) 0 (zpx put) (sl s) i ↔ sl s (yof (zFo F) 0 (zpx put) i) = F i := by unfold zMk; rw [if_pos (show zFo F 0 i < 4 by show F i < 4; omega)]; rfl
      obtain ⟨w1, w2⟩ := e4 (yof (zFo F) 0 (zpx put) i) (by omega)
      refine x_iload (pc := 9) dX7_makesOne_9 rfl ?_
      refine x_iloadn (pc := 11) dX7_makesOne_11 rfl ?_
      refine x_cge (tgt := 113) (pc := 12) dX7_makesOne_12 (by decide) (by omega) (fun c_12 => ?_) (fun c_12 => ?_)
      · skip
        exact absurd c_12 (by omega)
      refine x_iload (pc := 15) dX7_makesOne_15 rfl ?_
      refine x_bipush (pc := 17) dX7_makesOne_17 (by decide) ?_
      refine x_cge (tgt := 113) (pc := 19) dX7_makesOne_19 (by decide) (by omega) (fun c_19 => ?_) (fun c_19 => ?_)
      · skip
        exact absurd c_19 (by omega)
      refine x_iload (pc := 22) dX7_makesOne_22 rfl ?_
      refine x_bipush (pc := 24) dX7_makesOne_24 (by decide) ?_
      refine x_clt (tgt := 31) (pc := 26) dX7_makesOne_26 (by decide) (by omega) (fun c_26 => ?_) (fun c_26 => ?_)
      rotate_left
      · skip
        exact absurd c_26 (by omega)
      refine x_aloadn (pc := 31) dX7_makesOne_31 rfl ?_
      refine x_getR (97) (pc := 32) dX7_makesOne_32 fl_X7_20 k_88 (hL 88 (by decide) (by decide)) (f_88_2 hF) ?_
      refine x_iload (pc := 35) dX7_makesOne_35 rfl ?_
      refine x_iald (i) (pc := 37) dX7_makesOne_37 k_97 (hL 97 (by decide) (by decide)) (⟨by omega, by omega, by decide⟩) ?_
      refine x_iconst (pc := 38) dX7_makesOne_38 ?_
      refine x_ceq (tgt := 69) (pc := 39) dX7_makesOne_39 (by decide) (by omega) (fun c_39 => ?_) (fun c_39 => ?_)
      · skip
        exact absurd c_39 (by omega)
      refine x_aloadn (pc := 42) dX7_makesOne_42 rfl ?_
      refine x_getR (89) (pc := 43) dX7_makesOne_43 fl_X7_13 k_88 (hL 88 (by decide) (by decide)) (f_88_0 hF) ?_
      refine x_iloadn (pc := 46) dX7_makesOne_46 rfl ?_
      refine x_aald (90 + s) (s) (pc := 47) dX7_makesOne_47 k_89 (by decide) (hL 89 (by decide) (by decide)) (⟨by omega, by omega, by decide⟩) (hF _ (sw_fl s (by omega))) ?_
      refine x_iload (pc := 48) dX7_makesOne_48 rfl ?_
      refine x_iald (yof (zFo F) 0 (zpx put) i) (pc := 50) dX7_makesOne_50 hk (hL _ (by omega) (by omega)) (⟨by omega, by omega, by decide⟩) ?_
      refine x_aloadn (pc := 51) dX7_makesOne_51 rfl ?_
      refine x_getR (97) (pc := 52) dX7_makesOne_52 fl_X7_20 k_88 (hL 88 (by decide) (by decide)) (f_88_2 hF) ?_
      refine x_iload (pc := 55) dX7_makesOne_55 rfl ?_
      refine x_iald (i) (pc := 57) dX7_makesOne_57 k_97 (hL 97 (by decide) (by decide)) (⟨by omega, by omega, by decide⟩) ?_
      refine x_ceq (tgt := 63) (pc := 58) dX7_makesOne_58 (by decide) (by omega) (fun c_58 => ?_) (fun c_58 => ?_)
      · skip
        refine x_iinc (pc := 63) dX7_makesOne_63 rfl (by decide) rfl ?_
        refine x_goto (tgt := 107) (pc := 66) dX7_makesOne_66 (by decide) ?_
        refine x_iinc (pc := 107) dX7_makesOne_107 rfl (by decide) rfl ?_
        refine x_goto (tgt := 9) (pc := 110) dX7_makesOne_110 (by decide) ?_
        rw [show ((yof (zFo F) 0 (zpx put) i : Nat) : Int) + 1 = ((yof (zFo F) 0 (zpx put) (i + 1) : Nat) : Int) by omega]
        have e := ih (i + 1) (by omega) (fun j hj => by
          by_cases e : j = i
          · subst e; exact hmk.mpr (by omega)
          · exact hM j (by omega))
        rw [hzs] at e
        exact e
      · skip
        refine x_iconst (pc := 61) dX7_makesOne_61 ?_
        refine x_rZ (pc := 62) dX7_makesOne_62 rfl (by omega) ?_
        exact ⟨Or.inr ⟨rfl, fun w => c_58 (by have := hmk.mp (w i (by omega)); omega)⟩, rfl⟩
    · rw [if_neg (by omega), c] at hof
      rw [c] at hzs
      have hpx : zpx put (5 - 4) = put := rfl
      rw [hpx] at hof
      have hsb := zst_bd (I := zFo F) (q := 0) (p := zpx put) i 1
      have hpx1 : zpx put 1 = put := rfl
      rw [hpx1] at hsb
      have hmk : zMk (zFo F) 0 (zpx put) (sl s) i ↔ (yst (zFo F) 0 (zpx put) i 1 = -1 ∨ ∀ j, j < put → sl s (yof (zFo F) 0 (zpx put) i + j) = sl s ((yst (zFo F) 0 (zpx put) i 1).toNat + j)) := by
        have e5 : zFo F 0 i = 5 := c
        unfold zMk; rw [if_neg (by omega), e5]; exact Iff.rfl
      by_cases cs : yst (zFo F) 0 (zpx put) i 1 = -1
      · rw [if_pos ⟨by decide, cs⟩] at hzs
        have hz1 : yst (zFo F) 0 (zpx put) (i + 1) 1 = (yof (zFo F) 0 (zpx put) i : Int) := by rw [hzs]; exact zup_s
        refine x_iload (pc := 9) dX7_makesOne_9 rfl ?_
        refine x_iloadn (pc := 11) dX7_makesOne_11 rfl ?_
        refine x_cge (tgt := 113) (pc := 12) dX7_makesOne_12 (by decide) (by omega) (fun c_12 => ?_) (fun c_12 => ?_)
        · skip
          exact absurd c_12 (by omega)
        refine x_iload (pc := 15) dX7_makesOne_15 rfl ?_
        refine x_bipush (pc := 17) dX7_makesOne_17 (by decide) ?_
        refine x_cge (tgt := 113) (pc := 19) dX7_makesOne_19 (by decide) (by omega) (fun c_19 => ?_) (fun c_19 => ?_)
        · skip
          exact absurd c_19 (by omega)
        refine x_iload (pc := 22) dX7_makesOne_22 rfl ?_
        refine x_bipush (pc := 24) dX7_makesOne_24 (by decide) ?_
        refine x_clt (tgt := 31) (pc := 26) dX7_makesOne_26 (by decide) (by omega) (fun c_26 => ?_) (fun c_26 => ?_)
        rotate_left
        · skip
          exact absurd c_26 (by omega)
        refine x_aloadn (pc := 31) dX7_makesOne_31 rfl ?_
        refine x_getR (97) (pc := 32) dX7_makesOne_32 fl_X7_20 k_88 (hL 88 (by decide) (by decide)) (f_88_2 hF) ?_
        refine x_iload (pc := 35) dX7_makesOne_35 rfl ?_
        refine x_iald (i) (pc := 37) dX7_makesOne_37 k_97 (hL 97 (by decide) (by decide)) (⟨by omega, by omega, by decide⟩) ?_
        refine x_iconst (pc := 38) dX7_makesOne_38 ?_
        refine x_ceq (tgt := 69) (pc := 39) dX7_makesOne_39 (by decide) (by omega) (fun c_39 => ?_) (fun c_39 => ?_)
        rotate_left
        · skip
          exact absurd c_39 (by omega)
        refine x_iload (pc := 69) dX7_makesOne_69 rfl ?_
        refine x_iconst (pc := 71) dX7_makesOne_71 ?_
        refine x_cne (tgt := 82) (pc := 72) dX7_makesOne_72 (by decide) (by omega) (fun c_72 => ?_) (fun c_72 => ?_)
        · skip
          exact absurd cs c_72
        refine x_iload (pc := 75) dX7_makesOne_75 rfl ?_
        refine x_istore (pc := 77) dX7_makesOne_77 (by decide) rfl ?_
        refine x_goto (tgt := 101) (pc := 79) dX7_makesOne_79 (by decide) ?_
        refine x_iload (pc := 101) dX7_makesOne_101 rfl ?_
        refine x_iloadn (pc := 103) dX7_makesOne_103 rfl ?_
        refine x_iadd (pc := 104) dX7_makesOne_104 ?_
        refine x_istore (pc := 105) dX7_makesOne_105 (by decide) rfl ?_
        refine x_iinc (pc := 107) dX7_makesOne_107 rfl (by decide) rfl ?_
        refine x_goto (tgt := 9) (pc := 110) dX7_makesOne_110 (by decide) ?_
        rw [show ((yof (zFo F) 0 (zpx put) i : Nat) : Int) + (put : Int) = ((yof (zFo F) 0 (zpx put) (i + 1) : Nat) : Int) by omega]
        have e := ih (i + 1) (by omega) (fun j hj => by
          by_cases e : j = i
          · subst e; exact hmk.mpr (Or.inl cs)
          · exact hM j (by omega))
        rw [hz1] at e
        exact e
      · rw [if_neg (fun w => cs w.2)] at hzs
        obtain ⟨t, hts⟩ : ∃ t : Nat, yst (zFo F) 0 (zpx put) i 1 = t := ⟨(yst (zFo F) 0 (zpx put) i 1).toNat, by omega⟩
        have htt : (yst (zFo F) 0 (zpx put) i 1).toNat = t := by omega
        rw [htt] at hmk
        have hbad : (∀ j, j < put → G (90 + s) (t + j) = G (90 + s) (yof (zFo F) 0 (zpx put) i + j)) ↔ ∀ j, j < put → sl s (yof (zFo F) 0 (zpx put) i + j) = sl s (t + j) := by
          constructor
          · intro w j hj; have a1 := w j hj; have a2 := e4 (t + j) (by omega); have a3 := e4 (yof (zFo F) 0 (zpx put) i + j) (by omega); omega
          · intro w j hj; have a1 := w j hj; have a2 := e4 (t + j) (by omega); have a3 := e4 (yof (zFo F) 0 (zpx put) i + j) (by omega); omega
        have ih2 := ih (i + 1) (by omega)
        rw [hzs] at ih2
        rw [hts] at ih2 ⊢
        refine x_iload (pc := 9) dX7_makesOne_9 rfl ?_
        refine x_iloadn (pc := 11) dX7_makesOne_11 rfl ?_
        refine x_cge (tgt := 113) (pc := 12) dX7_makesOne_12 (by decide) (by omega) (fun c_12 => ?_) (fun c_12 => ?_)
        · skip
          exact absurd c_12 (by omega)
        refine x_iload (pc := 15) dX7_makesOne_15 rfl ?_
        refine x_bipush (pc := 17) dX7_makesOne_17 (by decide) ?_
        refine x_cge (tgt := 113) (pc := 19) dX7_makesOne_19 (by decide) (by omega) (fun c_19 => ?_) (fun c_19 => ?_)
        · skip
          exact absurd c_19 (by omega)
        refine x_iload (pc := 22) dX7_makesOne_22 rfl ?_
        refine x_bipush (pc := 24) dX7_makesOne_24 (by decide) ?_
        refine x_clt (tgt := 31) (pc := 26) dX7_makesOne_26 (by decide) (by omega) (fun c_26 => ?_) (fun c_26 => ?_)
        rotate_left
        · skip
          exact absurd c_26 (by omega)
        refine x_aloadn (pc := 31) dX7_makesOne_31 rfl ?_
        refine x_getR (97) (pc := 32) dX7_makesOne_32 fl_X7_20 k_88 (hL 88 (by decide) (by decide)) (f_88_2 hF) ?_
        refine x_iload (pc := 35) dX7_makesOne_35 rfl ?_
        refine x_iald (i) (pc := 37) dX7_makesOne_37 k_97 (hL 97 (by decide) (by decide)) (⟨by omega, by omega, by decide⟩) ?_
        refine x_iconst (pc := 38) dX7_makesOne_38 ?_
        refine x_ceq (tgt := 69) (pc := 39) dX7_makesOne_39 (by decide) (by omega) (fun c_39 => ?_) (fun c_39 => ?_)
        rotate_left
        · skip
          exact absurd c_39 (by omega)
        refine x_iload (pc := 69) dX7_makesOne_69 rfl ?_
        refine x_iconst (pc := 71) dX7_makesOne_71 ?_
        refine x_cne (tgt := 82) (pc := 72) dX7_makesOne_72 (by decide) (by omega) (fun c_72 => ?_) (fun c_72 => ?_)
        rotate_left
        · skip
          exact absurd c_72 (by omega)
        refine x_aloadn (pc := 82) dX7_makesOne_82 rfl ?_
        refine x_getR (89) (pc := 83) dX7_makesOne_83 fl_X7_13 k_88 (hL 88 (by decide) (by decide)) (f_88_0 hF) ?_
        refine x_iloadn (pc := 86) dX7_makesOne_86 rfl ?_
        refine x_aald (90 + s) (s) (pc := 87) dX7_makesOne_87 k_89 (by decide) (hL 89 (by decide) (by decide)) (⟨by omega, by omega, by decide⟩) (hF _ (sw_fl s (by omega))) ?_
        refine x_iload (pc := 88) dX7_makesOne_88 rfl ?_
        refine x_iload (pc := 90) dX7_makesOne_90 rfl ?_
        refine x_iloadn (pc := 92) dX7_makesOne_92 rfl ?_
        refine x_cSNI (pc := 93) dX7_makesOne_93 lk_X7_83 (c_ts_same (M := sn s) hk (hL _ (by omega) (by omega)) (by decide) (by omega) (by omega) (by omega) (fun j hj => by have := e4 j hj; omega)) (⟨by decide, by decide⟩) (Nat.le_of_ble_eq_true rfl) rfl ?_
        rintro x G' ⟨hx, hG⟩
        subst hG
        rw [hbad] at hx
        refine x_ine (tgt := 101) (pc := 96) dX7_makesOne_96 (by decide) (by omega) (fun c_96 => ?_) (fun c_96 => ?_)
        · skip
          refine x_iload (pc := 101) dX7_makesOne_101 rfl ?_
          refine x_iloadn (pc := 103) dX7_makesOne_103 rfl ?_
          refine x_iadd (pc := 104) dX7_makesOne_104 ?_
          refine x_istore (pc := 105) dX7_makesOne_105 (by decide) rfl ?_
          refine x_iinc (pc := 107) dX7_makesOne_107 rfl (by decide) rfl ?_
          refine x_goto (tgt := 9) (pc := 110) dX7_makesOne_110 (by decide) ?_
          rw [show ((yof (zFo F) 0 (zpx put) i : Nat) : Int) + (put : Int) = ((yof (zFo F) 0 (zpx put) (i + 1) : Nat) : Int) by omega]
          exact ih2 (fun j hj => by
            by_cases e : j = i
            · subst e; exact hmk.mpr (Or.inr (by rcases hx with hx | hx; exact hx.2; omega))
            · exact hM j (by omega))
        · skip
          refine x_iconst (pc := 99) dX7_makesOne_99 ?_
          refine x_rZ (pc := 100) dX7_makesOne_100 rfl (by omega) ?_
          exact ⟨Or.inr ⟨rfl, fun w => by rcases hmk.mp (w i (by omega)) with w | w; exact cs w; rcases hx with hx | hx; omega; exact hx.2 w⟩, rfl⟩
theorem c_Sm_one {s put : Nat} {F : Nat → Nat} {G : Nat → Nat → Int} (hL : x_SL L) (hF : x_Fin xFL G) (hS : cSm S sn sl G) (hs : s < S) (hn : n ≤ 8) (hv : ∀ i, i < n → F i < 3 ∨ F i = 5) (ht : ∀ i, i < n → G 97 i = F i) (hp1 : 1 ≤ put) (hlen : yof (zFo F) 0 (zpx put) n = sn s) :
    CM yX7_makesOne mX7_makesOne 1 0 0 [vR 88, vI s, vI n, vI put] L G (qI L fun x G' => ((x = 1 ∧ zMa (zFo F) 0 (zpx put) (sl s) n) ∨ (x = 0 ∧ ¬ zMa (zFo F) 0 (zpx put) (sl s) n)) ∧ G' = G) := by
  refine Ct.of_X (μ := mX7_makesOne) rfl rfl (by decide) (fun h => by cases h) (Nat.le_of_ble_eq_true rfl) rfl ?_
  refine x_iconst (pc := 0) dX7_makesOne_0 ?_
  refine x_istore (pc := 1) dX7_makesOne_1 (by decide) rfl ?_
  refine x_iconst (pc := 3) dX7_makesOne_3 ?_
  refine x_istore (pc := 4) dX7_makesOne_4 (by decide) rfl ?_
  refine x_iconst (pc := 6) dX7_makesOne_6 ?_
  refine x_istore (pc := 7) dX7_makesOne_7 (by decide) rfl ?_
  exact l_Sm_one hL hF hS hs hn hv ht hp1 hlen n 0 (by omega) (fun j hj => absurd hj (Nat.not_lt_zero j))
end XCC

