/-! the reference: a letter of one answer -/
section XLT
variable {L : List Nat} {g a : Nat → Nat}
def zph (g a : Nat → Nat) (x : Nat) : Nat := if g x = x then zpop (a x) else 1
def zlt (g a : Nat → Nat) (N r D : Nat) : Int := zla (a D) ((zrt (zph g a) N r (N - 1 - D) % zpop (a D) : Nat) : Int)
theorem l_mo_let {r p0 D N : Nat} {G : Nat → Nat → Int} (hL : x_SL L) (hF : x_Fin xFL G) (hN : N ≤ 32) (hD : D < N) (hp : G 127 22 = (N : Int)) (hU : mLd g G) (hr : r < 9223372036854775808) (hc : ∀ x, x < N → g x = x → G 147 x = ((a x : Nat) : Int) ∧ a x < 8 ∧ a x ≠ 0) (hgD : g D = D) :
    ∀ (k q : Nat) (v : Int) (o9 o10 : Option (Nat × Int)), q + k = N → (N - 1 - D < q → v = zlt g a N r D) →
    X mX12_letterOf 1 0 0 (qI L fun x G' => x = zlt g a N r D ∧ G' = G) 21 [some (vR 127), some (vL r), none, some (vI p0), some (vL (zrt (zph g a) N r q)), none, some (vI D), some (vI v), some (vI ((N : Int) - 1 - q)), o9, o10] [] L G 0 0 := by
  intro k
  induction k with
  | zero =>
    intro q v o9 o10 hq hv
    have hv := hv (by omega)
    subst hv
    refine x_iload (pc := 21) dX12_letterOf_21 rfl ?_
    refine x_ilt (tgt := 122) (pc := 23) dX12_letterOf_23 (by decide) (by omega) (fun c_23 => ?_) (fun c_23 => ?_)
    rotate_left
    · skip
      exact absurd c_23 (by omega)
    refine x_iload (pc := 122) dX12_letterOf_122 rfl ?_
    refine x_rI (pc := 124) dX12_letterOf_124 rfl ?_
    exact ⟨rfl, rfl⟩
  | succ k ih =>
    intro q v o9 o10 hq hv
    obtain ⟨p, hpp⟩ : ∃ p, p = N - 1 - q := ⟨_, rfl⟩
    obtain ⟨l, l1, l2, l3, l4, l5, l6⟩ := hU p (by omega)
    have hst : zrt (zph g a) N r (q + 1) = zrt (zph g a) N r q / zph g a p := by rw [zrt, ← hpp]
    have hrt := zrt_le (φ := zph g a) (N := N) (r := r) q
    have hnd : ((N : Int) - 1 - q) = ((p : Nat) : Int) := by omega
    have hnx : ((p : Nat) : Int) + -1 = (N : Int) - 1 - ((q + 1 : Nat) : Int) := by omega
    have hpq : N - 1 - p = q := by omega
    rw [hnd]
    by_cases c : g p = p
    · obtain ⟨k1, k2, k3⟩ := hc p (by omega) c
      have hpo := zpop_i k2
      have h3 := zpop_3 _ k2
      have hnz := zpop_nz _ k2 k3
      have hfc : zph g a p = zpop (a p) := if_pos c
      rw [hfc] at hst
      obtain ⟨R, hR⟩ : ∃ R, R = zrt (zph g a) N r q := ⟨_, rfl⟩
      obtain ⟨P, hP⟩ : ∃ R, R = zpop (a p) := ⟨_, rfl⟩
      have hmod : (R : Int) % (P : Int) = ((R % P : Nat) : Int) := by simp
      have hdiv : (R : Int) / (P : Int) = ((R / P : Nat) : Int) := by simp
      have hml : R % P < P := Nat.mod_lt _ (by omega)
      have hzc : p = D → zla (a p) ((R % P : Nat) : Int) = zlt g a N r D := fun e => by unfold zlt; rw [← e, hpq, ← hR, ← hP]
      have hpk : R % P < zpop (a p) := by rw [← hP]; exact hml
      rw [← hP] at hpo
      rw [← hR]
      rw [← hR, ← hP] at hst
      refine x_iload (pc := 21) dX12_letterOf_21 rfl ?_
      refine x_ilt (tgt := 122) (pc := 23) dX12_letterOf_23 (by decide) (by omega) (fun c_23 => ?_) (fun c_23 => ?_)
      · skip
        exact absurd c_23 (by omega)
      refine x_aloadn (pc := 26) dX12_letterOf_26 rfl ?_
      refine x_getR (146) (pc := 27) dX12_letterOf_27 fl_X12_64 k_127 (hL 127 (by decide) (by decide)) (f_127_23 hF) ?_
      refine x_iload (pc := 30) dX12_letterOf_30 rfl ?_
      refine x_iald (p) (pc := 32) dX12_letterOf_32 k_146 (hL 146 (by decide) (by decide)) (⟨by omega, by omega, by decide⟩) ?_
      rw [l1]
      refine x_iload (pc := 33) dX12_letterOf_33 rfl ?_
      refine x_cne (tgt := 116) (pc := 35) dX12_letterOf_35 (by decide) (by omega) (fun c_35 => ?_) (fun c_35 => ?_)
      · skip
        exact absurd (by rw [l5.mpr c]) c_35
      refine x_aloadn (pc := 38) dX12_letterOf_38 rfl ?_
      refine x_getR (147) (pc := 39) dX12_letterOf_39 fl_X12_67 k_127 (hL 127 (by decide) (by decide)) (f_127_24 hF) ?_
      refine x_iload (pc := 42) dX12_letterOf_42 rfl ?_
      refine x_iald (p) (pc := 44) dX12_letterOf_44 k_147 (hL 147 (by decide) (by decide)) (⟨by omega, by omega, by decide⟩) ?_
      rw [k1]
      refine x_iconst (pc := 45) dX12_letterOf_45 ?_
      refine x_iandm (pc := 46) dX12_letterOf_46 1 2 (by decide) (by decide) (by decide) ?_
      refine x_aloadn (pc := 47) dX12_letterOf_47 rfl ?_
      refine x_getR (147) (pc := 48) dX12_letterOf_48 fl_X12_67 k_127 (hL 127 (by decide) (by decide)) (f_127_24 hF) ?_
      refine x_iload (pc := 51) dX12_letterOf_51 rfl ?_
      refine x_iald (p) (pc := 53) dX12_letterOf_53 k_147 (hL 147 (by decide) (by decide)) (⟨by omega, by omega, by decide⟩) ?_
      rw [k1]
      refine x_iconst (pc := 54) dX12_letterOf_54 ?_
      refine x_ishr (pc := 55) dX12_letterOf_55 1 (by decide) (by decide) (by omega) ?_
      refine x_iconst (pc := 56) dX12_letterOf_56 ?_
      refine x_iandm (pc := 57) dX12_letterOf_57 1 2 (by decide) (by decide) (by decide) ?_
      refine x_iadd (pc := 58) dX12_letterOf_58 ?_
      refine x_aloadn (pc := 59) dX12_letterOf_59 rfl ?_
      refine x_getR (147) (pc := 60) dX12_letterOf_60 fl_X12_67 k_127 (hL 127 (by decide) (by decide)) (f_127_24 hF) ?_
      refine x_iload (pc := 63) dX12_letterOf_63 rfl ?_
      refine x_iald (p) (pc := 65) dX12_letterOf_65 k_147 (hL 147 (by decide) (by decide)) (⟨by omega, by omega, by decide⟩) ?_
      rw [k1]
      refine x_iconst (pc := 66) dX12_letterOf_66 ?_
      refine x_ishr (pc := 67) dX12_letterOf_67 2 (by decide) (by decide) (by omega) ?_
      refine x_iconst (pc := 68) dX12_letterOf_68 ?_
      refine x_iandm (pc := 69) dX12_letterOf_69 1 2 (by decide) (by decide) (by decide) ?_
      refine x_iadd (pc := 70) dX12_letterOf_70 ?_
      rw [hpo]
      refine x_istore (pc := 71) dX12_letterOf_71 (by decide) rfl ?_
      refine x_lload (pc := 73) dX12_letterOf_73 rfl ?_
      refine x_iload (pc := 75) dX12_letterOf_75 rfl ?_
      refine x_i2l (pc := 77) dX12_letterOf_77 (by omega) ?_
      refine x_lrem (pc := 78) dX12_letterOf_78 (by omega) ?_
      rw [hmod]
      refine x_l2i (pc := 79) dX12_letterOf_79 ?_
      refine x_istore (pc := 80) dX12_letterOf_80 (by decide) rfl ?_
      refine x_lload (pc := 82) dX12_letterOf_82 rfl ?_
      refine x_iload (pc := 84) dX12_letterOf_84 rfl ?_
      refine x_i2l (pc := 86) dX12_letterOf_86 (by omega) ?_
      refine x_ldiv (pc := 87) dX12_letterOf_87 (by omega) ?_
      rw [hdiv]
      refine x_lstore (pc := 88) dX12_letterOf_88 (by decide) rfl ?_
      refine x_iload (pc := 90) dX12_letterOf_90 rfl ?_
      refine x_iload (pc := 92) dX12_letterOf_92 rfl ?_
      refine x_cne (tgt := 112) (pc := 94) dX12_letterOf_94 (by decide) (by omega) (fun c_94 => ?_) (fun c_94 => ?_)
      · skip
        refine x_iload (pc := 112) dX12_letterOf_112 rfl ?_
        refine x_istore (pc := 114) dX12_letterOf_114 (by decide) rfl ?_
        refine x_iinc (pc := 116) dX12_letterOf_116 rfl (by decide) rfl ?_
        refine x_goto (tgt := 21) (pc := 119) dX12_letterOf_119 (by decide) ?_
        rw [hnx, ← hst]
        exact ih (q + 1) v _ _ (by omega) (fun h => hv (by omega))
      · skip
        refine x_aloadn (pc := 97) dX12_letterOf_97 rfl ?_
        refine x_getR (147) (pc := 98) dX12_letterOf_98 fl_X12_67 k_127 (hL 127 (by decide) (by decide)) (f_127_24 hF) ?_
        refine x_iload (pc := 101) dX12_letterOf_101 rfl ?_
        refine x_iald (p) (pc := 103) dX12_letterOf_103 k_147 (hL 147 (by decide) (by decide)) (⟨by omega, by omega, by decide⟩) ?_
        rw [k1]
        refine x_iload (pc := 104) dX12_letterOf_104 rfl ?_
        refine x_cSI (pc := 106) dX12_letterOf_106 lk_X12_202 (c_mo_pick (a := a p) (k := R % P) k2 hpk) (⟨by decide, by decide⟩) (Nat.le_of_ble_eq_true rfl) rfl ?_
        rintro x G' ⟨rfl, rfl⟩
        refine x_goto (tgt := 114) (pc := 109) dX12_letterOf_109 (by decide) ?_
        refine x_istore (pc := 114) dX12_letterOf_114 (by decide) rfl ?_
        refine x_iinc (pc := 116) dX12_letterOf_116 rfl (by decide) rfl ?_
        refine x_goto (tgt := 21) (pc := 119) dX12_letterOf_119 (by decide) ?_
        rw [hnx, ← hst, hzc (by omega)]
        exact ih (q + 1) (zlt g a N r D) _ _ (by omega) (fun _ => rfl)
    · have hfc : zph g a p = 1 := if_neg c
      rw [hfc, Nat.div_one] at hst
      refine x_iload (pc := 21) dX12_letterOf_21 rfl ?_
      refine x_ilt (tgt := 122) (pc := 23) dX12_letterOf_23 (by decide) (by omega) (fun c_23 => ?_) (fun c_23 => ?_)
      · skip
        exact absurd c_23 (by omega)
      refine x_aloadn (pc := 26) dX12_letterOf_26 rfl ?_
      refine x_getR (146) (pc := 27) dX12_letterOf_27 fl_X12_64 k_127 (hL 127 (by decide) (by decide)) (f_127_23 hF) ?_
      refine x_iload (pc := 30) dX12_letterOf_30 rfl ?_
      refine x_iald (p) (pc := 32) dX12_letterOf_32 k_146 (hL 146 (by decide) (by decide)) (⟨by omega, by omega, by decide⟩) ?_
      rw [l1]
      refine x_iload (pc := 33) dX12_letterOf_33 rfl ?_
      refine x_cne (tgt := 116) (pc := 35) dX12_letterOf_35 (by decide) (by omega) (fun c_35 => ?_) (fun c_35 => ?_)
      rotate_left
      · skip
        exact absurd (l5.mp (by omega)) c
      refine x_iinc (pc := 116) dX12_letterOf_116 rfl (by decide) rfl ?_
      refine x_goto (tgt := 21) (pc := 119) dX12_letterOf_119 (by decide) ?_
      rw [hnx, ← hst]
      refine ih (q + 1) v _ _ (by omega) (fun h => hv ?_)
      by_cases e : N - 1 - D = q
      · exact absurd (show g p = p by rw [show p = D by omega]; exact hgD) c
      · omega
theorem c_mo_letterOf {r p0 N : Nat} {G : Nat → Nat → Int} (hL : x_SL L) (hF : x_Fin xFL G) (hN : N ≤ 32) (hp0 : p0 < N) (hp : G 127 22 = (N : Int)) (hU : mLd g G) (hr : r < 9223372036854775808) (hc : ∀ x, x < N → g x = x → G 147 x = ((a x : Nat) : Int) ∧ a x < 8 ∧ a x ≠ 0) :
    CM yX12_letterOf mX12_letterOf 1 0 0 [vR 127, vL r, vI p0] L G (qI L fun x G' => x = zlt g a N r (g p0) ∧ G' = G) := by
  obtain ⟨_, _, _, l3, _, _, l6⟩ := hU p0 (by omega)
  refine Ct.of_X (μ := mX12_letterOf) rfl rfl (by decide) (fun h => by cases h) (Nat.le_of_ble_eq_true rfl) rfl ?_
  refine x_lloadn (pc := 0) dX12_letterOf_0 rfl ?_
  refine x_lstore (pc := 1) dX12_letterOf_1 (by decide) rfl ?_
  refine x_aloadn (pc := 3) dX12_letterOf_3 rfl ?_
  refine x_iloadn (pc := 4) dX12_letterOf_4 rfl ?_
  refine x_cVI (pc := 5) dX12_letterOf_5 lk_X12_166 (c_mo_leadOf (x := p0) hL hF hU (by omega)) k_127 ⟨by decide, rfl⟩ (hL 127 (by decide) (by decide)) (⟨by decide, by decide⟩) (Nat.le_of_ble_eq_true rfl) rfl ?_
  rintro x G' ⟨rfl, rfl⟩
  refine x_istore (pc := 8) dX12_letterOf_8 (by decide) rfl ?_
  refine x_iconst (pc := 10) dX12_letterOf_10 ?_
  refine x_istore (pc := 11) dX12_letterOf_11 (by decide) rfl ?_
  refine x_aloadn (pc := 13) dX12_letterOf_13 rfl ?_
  refine x_getI (pc := 14) dX12_letterOf_14 fl_X12_172 k_127 (hL 127 (by decide) (by decide)) ?_
  rw [hp]
  refine x_iconst (pc := 17) dX12_letterOf_17 ?_
  refine x_isub (pc := 18) dX12_letterOf_18 ?_
  refine x_istore (pc := 19) dX12_letterOf_19 (by decide) rfl ?_
  have e := l_mo_let (L := L) (a := a) (p0 := p0) hL hF hN (show g p0 < N by omega) hp hU hr hc l6 N 0 (-1) none none (Nat.zero_add _) (fun h => by omega)
  rw [show (N : Int) - 1 - ((0 : Nat) : Int) = (N : Int) - 1 by omega] at e
  exact e
end XLT

