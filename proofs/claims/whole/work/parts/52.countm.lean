/-! the reference's count -/
theorem l_mo_cu {m : Nat} {S : Nat → Nat} {I : Nat → Nat → Nat} {w : Int} {L : List Nat} {G : Nat → Nat → Int} (hL : x_SL L) (hF : x_Fin xFL G) (hE : mEq m S I G) :
    ∀ (k t : Nat), t + k = 4 → X mX12_count 2 0 0 (qI L fun x G' => x = zcu (zub S I (2 * m)) 4 ∧ G' = G) 48 [some (vR 127), some (vI w), some (vI (zcu (zub S I (2 * m)) t)), some (vI t)] [] L G 0 0 := by
  have hus := zus_lt (S := S) (I := I) (2 * m) (fun q hq i hi => ((hE.2.2 q hq).2.2 i hi).2)
  intro k
  induction k with
  | zero =>
    intro t ht
    have ht : t = 4 := by omega
    subst ht
    have hb := zcu_le (zub_le S I (2 * m)) 4
    refine x_iloadn (pc := 48) dX12_count_48 rfl ?_
    refine x_iconst (pc := 49) dX12_count_49 ?_
    refine x_cge (tgt := 70) (pc := 50) dX12_count_50 (by decide) (by omega) (fun c_50 => ?_) (fun c_50 => ?_)
    rotate_left
    · skip
      exact absurd c_50 (by omega)
    refine x_iloadn (pc := 70) dX12_count_70 rfl ?_
    refine x_rI (pc := 71) dX12_count_71 rfl ?_
    exact ⟨rfl, rfl⟩
  | succ k ih =>
    intro t ht
    have hb := zcu_le (zub_le S I (2 * m)) t
    have hb2 := zub_lt S I (2 * m) t
    have hzu : ((zus S I (2 * m) : Nat) : Int) / 2 ^ t % 2 = (zub S I (2 * m) t : Nat) := by unfold zub; rw [Int.natCast_emod, Int.natCast_ediv, Int.natCast_pow]; rfl
    have ih2 := ih (t + 1) (by omega)
    rw [show zcu (zub S I (2 * m)) (t + 1) = zcu (zub S I (2 * m)) t + zub S I (2 * m) t from rfl] at ih2
    refine x_iloadn (pc := 48) dX12_count_48 rfl ?_
    refine x_iconst (pc := 49) dX12_count_49 ?_
    refine x_cge (tgt := 70) (pc := 50) dX12_count_50 (by decide) (by omega) (fun c_50 => ?_) (fun c_50 => ?_)
    · skip
      exact absurd c_50 (by omega)
    refine x_iloadn (pc := 53) dX12_count_53 rfl ?_
    refine x_aloadn (pc := 54) dX12_count_54 rfl ?_
    refine x_cVI (pc := 55) dX12_count_55 lk_X12_169 (c_mo_usedNames hL hF hE) k_127 ⟨by decide, rfl⟩ (hL 127 (by decide) (by decide)) (⟨by decide, by decide⟩) (Nat.le_of_ble_eq_true rfl) rfl ?_
    rintro x G' ⟨rfl, rfl⟩
    refine x_iloadn (pc := 58) dX12_count_58 rfl ?_
    refine x_ishr (pc := 59) dX12_count_59 t (by omega) (by omega) (by omega) ?_
    refine x_iconst (pc := 60) dX12_count_60 ?_
    refine x_iandm (pc := 61) dX12_count_61 1 2 (by decide) (by decide) (by decide) ?_
    rw [hzu]
    refine x_iadd (pc := 62) dX12_count_62 ?_
    refine x_istoren (pc := 63) dX12_count_63 rfl (by decide) rfl ?_
    refine x_iinc (pc := 64) dX12_count_64 rfl (by decide) rfl ?_
    refine x_goto (tgt := 48) (pc := 67) dX12_count_67 (by decide) ?_
    exact ih2
theorem l_mo_cp {pn : Nat → Nat} {pl : Nat → Nat → Nat} {w : Int} {L : List Nat} {G : Nat → Nat → Int} (hL : x_SL L) (hF : x_Fin xFL G) (hP : mPt pn pl G) :
    ∀ (k t : Nat), t + k = 4 → X mX12_count 2 0 0 (qI L fun x G' => x = zcu (zpp pn) 4 ∧ G' = G) 79 [some (vR 127), some (vI w), some (vI (zcu (zpp pn) t)), some (vI t)] [] L G 0 0 := by
  intro k
  induction k with
  | zero =>
    intro t ht
    have ht : t = 4 := by omega
    subst ht
    have hb := zcu_le (zpp_le pn) 4
    refine x_iloadn (pc := 79) dX12_count_79 rfl ?_
    refine x_iconst (pc := 80) dX12_count_80 ?_
    refine x_cge (tgt := 107) (pc := 81) dX12_count_81 (by decide) (by omega) (fun c_81 => ?_) (fun c_81 => ?_)
    rotate_left
    · skip
      exact absurd c_81 (by omega)
    refine x_iloadn (pc := 107) dX12_count_107 rfl ?_
    refine x_rI (pc := 108) dX12_count_108 rfl ?_
    exact ⟨rfl, rfl⟩
  | succ k ih =>
    intro t ht
    have hb := zcu_le (zpp_le pn) t
    have hpt := hP t (by omega)
    have ih2 := ih (t + 1) (by omega)
    rw [show zcu (zpp pn) (t + 1) = zcu (zpp pn) t + zpp pn t from rfl] at ih2
    refine x_iloadn (pc := 79) dX12_count_79 rfl ?_
    refine x_iconst (pc := 80) dX12_count_80 ?_
    refine x_cge (tgt := 107) (pc := 81) dX12_count_81 (by decide) (by omega) (fun c_81 => ?_) (fun c_81 => ?_)
    · skip
      exact absurd c_81 (by omega)
    refine x_iloadn (pc := 84) dX12_count_84 rfl ?_
    refine x_aloadn (pc := 85) dX12_count_85 rfl ?_
    refine x_getR (139) (pc := 86) dX12_count_86 fl_X12_43 k_127 (hL 127 (by decide) (by decide)) (f_127_14 hF) ?_
    refine x_iloadn (pc := 89) dX12_count_89 rfl ?_
    refine x_iald (t) (pc := 90) dX12_count_90 k_139 (hL 139 (by decide) (by decide)) (⟨by omega, by omega, by decide⟩) ?_
    refine x_ile (tgt := 98) (pc := 91) dX12_count_91 (by decide) (by omega) (fun c_91 => ?_) (fun c_91 => ?_)
    · skip
      refine x_iconst (pc := 98) dX12_count_98 ?_
      refine x_iadd (pc := 99) dX12_count_99 ?_
      refine x_istoren (pc := 100) dX12_count_100 rfl (by decide) rfl ?_
      refine x_iinc (pc := 101) dX12_count_101 rfl (by decide) rfl ?_
      refine x_goto (tgt := 79) (pc := 104) dX12_count_104 (by decide) ?_
      first
      | (rw [show zpp pn t = 0 from if_neg (by omega)] at ih2; exact ih2)
      | (rw [show zpp pn t = 1 from if_pos (by omega)] at ih2; exact ih2)
    · skip
      refine x_iconst (pc := 94) dX12_count_94 ?_
      refine x_goto (tgt := 99) (pc := 95) dX12_count_95 (by decide) ?_
      refine x_iadd (pc := 99) dX12_count_99 ?_
      refine x_istoren (pc := 100) dX12_count_100 rfl (by decide) rfl ?_
      refine x_iinc (pc := 101) dX12_count_101 rfl (by decide) rfl ?_
      refine x_goto (tgt := 79) (pc := 104) dX12_count_104 (by decide) ?_
      first
      | (rw [show zpp pn t = 0 from if_neg (by omega)] at ih2; exact ih2)
      | (rw [show zpp pn t = 1 from if_pos (by omega)] at ih2; exact ih2)
theorem c_mo_count {m n s : Nat} {b pn S : Nat → Nat} {I pl : Nat → Nat → Nat} {w : Int} {L : List Nat} {G : Nat → Nat → Int} (hL : x_SL L) (hF : x_Fin xFL G) (hE : mEq m S I G) (hT : mTx n b G) (hs : G 127 17 = s) (hs6 : s ≤ 6) (hP : mPt pn pl G) (hw : -2147483648 ≤ w ∧ w < 2147483648) :
    CM yX12_count mX12_count 2 0 0 [vR 127, vI w] L G (qI L fun x G' => x = zcount m n s pn S I w ∧ G' = G) := by
  have e0 := hE.1
  have t0 := hT.1
  unfold zcount
  refine Ct.of_X (μ := mX12_count) rfl rfl (by decide) (fun h => by cases h) (Nat.le_of_ble_eq_true rfl) rfl ?_
  refine x_iconst (pc := 0) dX12_count_0 ?_
  refine x_istoren (pc := 1) dX12_count_1 rfl (by decide) rfl ?_
  refine x_iloadn (pc := 2) dX12_count_2 rfl ?_
  rcases (show w < 0 ∨ 4 < w ∨ w = 0 ∨ w = 1 ∨ w = 2 ∨ w = 3 ∨ w = 4 by omega) with t_3 | t_3 | rfl | rfl | rfl | rfl | rfl
  · refine x_tabOut (tgt := 109) (pc := 3) dX12_count_3 (by omega) (by omega) (by decide) ?_
    refine x_bipush (pc := 109) dX12_count_109 (by decide) ?_
    refine x_rI (pc := 111) dX12_count_111 rfl ?_
    refine ⟨?_, rfl⟩
    (repeat' split) <;> omega
  · refine x_tabOut (tgt := 109) (pc := 3) dX12_count_3 (by omega) (by omega) (by decide) ?_
    refine x_bipush (pc := 109) dX12_count_109 (by decide) ?_
    refine x_rI (pc := 111) dX12_count_111 rfl ?_
    refine ⟨?_, rfl⟩
    (repeat' split) <;> omega
  · refine x_tabIn (off := 33) (tgt := 36) (pc := 3) dX12_count_3 (by decide) rfl (by decide) ?_
    refine x_aloadn (pc := 36) dX12_count_36 rfl ?_
    refine x_getI (pc := 37) dX12_count_37 fl_X12_154 k_127 (hL 127 (by decide) (by decide)) ?_
    refine x_rI (pc := 40) dX12_count_40 rfl ?_
    refine ⟨?_, rfl⟩
    (repeat' split) <;> omega
  · refine x_tabIn (off := 38) (tgt := 41) (pc := 3) dX12_count_3 (by decide) rfl (by decide) ?_
    refine x_aloadn (pc := 41) dX12_count_41 rfl ?_
    refine x_getI (pc := 42) dX12_count_42 fl_X12_137 k_127 (hL 127 (by decide) (by decide)) ?_
    refine x_rI (pc := 45) dX12_count_45 rfl ?_
    refine ⟨?_, rfl⟩
    (repeat' split) <;> omega
  · refine x_tabIn (off := 43) (tgt := 46) (pc := 3) dX12_count_3 (by decide) rfl (by decide) ?_
    refine x_iconst (pc := 46) dX12_count_46 ?_
    refine x_istoren (pc := 47) dX12_count_47 rfl (by decide) rfl ?_
    exact l_mo_cu hL hF hE 4 0 (by omega)
  · refine x_tabIn (off := 69) (tgt := 72) (pc := 3) dX12_count_3 (by decide) rfl (by decide) ?_
    refine x_aloadn (pc := 72) dX12_count_72 rfl ?_
    refine x_getI (pc := 73) dX12_count_73 fl_X12_349 k_127 (hL 127 (by decide) (by decide)) ?_
    refine x_rI (pc := 76) dX12_count_76 rfl ?_
    refine ⟨?_, rfl⟩
    (repeat' split) <;> omega
  · refine x_tabIn (off := 74) (tgt := 77) (pc := 3) dX12_count_3 (by decide) rfl (by decide) ?_
    refine x_iconst (pc := 77) dX12_count_77 ?_
    refine x_istoren (pc := 78) dX12_count_78 rfl (by decide) rfl ?_
    exact l_mo_cp hL hF hP 4 0 (by omega)

