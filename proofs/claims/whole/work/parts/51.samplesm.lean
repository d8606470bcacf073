/-! the reference's sample; counts -/
abbrev pSmp (L : List Nat) (G : Nat → Nat → Int) (s : Nat) (sn : Nat → Nat) (sl : Nat → Nat → Nat) (w n : Int) : x_Q := qI L fun x G' => (¬ (1 ≤ n ∧ n ≤ 8 ∧ zgood w n.toNat) ∧ x = -3 ∧ G' = G) ∨ ((1 ≤ n ∧ n ≤ 8 ∧ zgood w n.toNat) ∧ s = 6 ∧ x = -5 ∧ G' = G) ∨ ((1 ≤ n ∧ n ≤ 8 ∧ zgood w n.toNat) ∧ s < 6 ∧ x = ((s + 1 : Nat) : Int) ∧ mSm (s + 1) (zup sn s n.toNat) (zup sl s (zln w)) G' ∧ FM [140, 141] [17] G G' ∧ x_Fin xFL G')
theorem l_mo_smpW {s n : Nat} {sn : Nat → Nat} {sl : Nat → Nat → Nat} {w : Int} {L : List Nat} {G0 : Nat → Nat → Int} (hL : x_SL L) (hS : mSm s sn sl G0) (hs : s < 6) (hw : -2147483648 ≤ w ∧ w < 2147483648) (hn1 : 1 ≤ n) (hn : n ≤ 8) (hg : zgood w n) :
    ∀ (k t : Nat) (G : Nat → Nat → Int), t + k = n → (∀ j, j < t → G 140 (8 * s + j) = zlet w j) → (∀ a, a / 8 ≠ s → G 140 a = G0 140 a) → FM [140, 141] [17] G0 G → G 141 = G0 141 → G 127 17 = s → x_Fin xFL G →
    X mX12_sample 2 0 0 (pSmp L G0 s sn sl w n) 69 [some (vR 127), some (vI w), some (vI n), some (vI 1), some (vI t)] [] L G 0 0 := by
  obtain ⟨s1, s2, s3⟩ := hS
  intro k
  induction k with
  | zero =>
    intro t G ht h1 h2 hR hm hc hF
    have ht : t = n := by omega
    subst ht
    refine x_iload (pc := 69) dX12_sample_69 rfl ?_
    refine x_iloadn (pc := 71) dX12_sample_71 rfl ?_
    refine x_cge (tgt := 104) (pc := 72) dX12_sample_72 (by decide) (by omega) (fun c_72 => ?_) (fun c_72 => ?_)
    rotate_left
    · skip
      exact absurd c_72 (by omega)
    refine x_aloadn (pc := 104) dX12_sample_104 rfl ?_
    refine x_getR (141) (pc := 105) dX12_sample_105 fl_X12_49 k_127 (hL 127 (by decide) (by decide)) (f_127_16 hF) ?_
    refine x_aloadn (pc := 108) dX12_sample_108 rfl ?_
    refine x_getI (pc := 109) dX12_sample_109 fl_X12_349 k_127 (hL 127 (by decide) (by decide)) ?_
    refine x_iloadn (pc := 112) dX12_sample_112 rfl ?_
    refine x_iastF (s) (pc := 113) dX12_sample_113 k_141 (hL 141 (by decide) (by decide)) (⟨by omega, by omega, by decide⟩) hF (fun hF => ?_)
    refine x_aloadn (pc := 114) dX12_sample_114 rfl ?_
    refine x_dup (pc := 115) dX12_sample_115 (fun h => by cases h) ?_
    refine x_getI (pc := 116) dX12_sample_116 fl_X12_349 k_127 (hL 127 (by decide) (by decide)) ?_
    refine x_iconst (pc := 119) dX12_sample_119 ?_
    refine x_iadd (pc := 120) dX12_sample_120 ?_
    refine x_putIF (pc := 121) dX12_sample_121 fp_X12_349 k_127 (hL 127 (by decide) (by decide)) hF (fun hF => ?_)
    refine x_aloadn (pc := 124) dX12_sample_124 rfl ?_
    refine x_getI (pc := 125) dX12_sample_125 fl_X12_349 k_127 (hL 127 (by decide) (by decide)) ?_
    refine x_rI (pc := 128) dX12_sample_128 rfl ?_
    refine Or.inr (Or.inr ⟨⟨by omega, by omega, by rw [Int.toNat_natCast]; exact hg⟩, hs, by rw [x_up_s, x_up_ne (by decide)]; omega, ⟨by rw [x_up_s, x_up_ne (by decide)]; omega, by omega, fun q hq => ?_⟩, (hR.upA (by decide)).upF (by decide), hF⟩)
    rw [Int.toNat_natCast]
    by_cases c : q = s
    · subst c
      rw [zup_s, zup_s]
      refine ⟨by rw [x_up_ne (by decide)]; exact x_up_s, hn1, hn, fun j hj => ?_⟩
      have := hg j hj
      have := zlet_bd w j
      exact ⟨by rw [x_up_ne (by decide), x_up_ne (by decide), h1 j hj]; exact zln_eq w j, by unfold zln; omega⟩
    · rw [zup_n c, zup_n c]
      obtain ⟨b1, b2, b3, b4⟩ := s3 q (by omega)
      refine ⟨by rw [x_up_ne (by decide), x_up_k c, hm]; exact b1, b2, b3, fun j hj => ?_⟩
      rw [x_up_ne (by decide), x_up_ne (by decide), h2 _ (by omega)]; exact b4 j hj
  | succ k ih =>
    intro t G ht h1 h2 hR hm hc hF
    have hzl : (w / 2 ^ (2 * t)) % 4 = zlet w t := rfl
    have hzb := zlet_bd w t
    refine x_iload (pc := 69) dX12_sample_69 rfl ?_
    refine x_iloadn (pc := 71) dX12_sample_71 rfl ?_
    refine x_cge (tgt := 104) (pc := 72) dX12_sample_72 (by decide) (by omega) (fun c_72 => ?_) (fun c_72 => ?_)
    · skip
      exact absurd c_72 (by omega)
    refine x_aloadn (pc := 75) dX12_sample_75 rfl ?_
    refine x_getR (140) (pc := 76) dX12_sample_76 fl_X12_46 k_127 (hL 127 (by decide) (by decide)) (f_127_15 hF) ?_
    refine x_bipush (pc := 79) dX12_sample_79 (by decide) ?_
    refine x_aloadn (pc := 81) dX12_sample_81 rfl ?_
    refine x_getI (pc := 82) dX12_sample_82 fl_X12_349 k_127 (hL 127 (by decide) (by decide)) ?_
    refine x_imul (pc := 85) dX12_sample_85 ?_
    refine x_iload (pc := 86) dX12_sample_86 rfl ?_
    refine x_iadd (pc := 88) dX12_sample_88 ?_
    refine x_iloadn (pc := 89) dX12_sample_89 rfl ?_
    refine x_iconst (pc := 90) dX12_sample_90 ?_
    refine x_iload (pc := 91) dX12_sample_91 rfl ?_
    refine x_imul (pc := 93) dX12_sample_93 ?_
    refine x_ishr (pc := 94) dX12_sample_94 (2 * t) (by omega) (by omega) (by omega) ?_
    refine x_iconst (pc := 95) dX12_sample_95 ?_
    refine x_iandm (pc := 96) dX12_sample_96 2 4 (by decide) (by decide) (by decide) ?_
    rw [hzl]
    refine x_iastF (8 * s + t) (pc := 97) dX12_sample_97 k_140 (hL 140 (by decide) (by decide)) (⟨by omega, by omega, by decide⟩) hF (fun hF => ?_)
    refine x_iinc (pc := 98) dX12_sample_98 rfl (by decide) rfl ?_
    refine x_goto (tgt := 69) (pc := 101) dX12_sample_101 (by decide) ?_
    refine ih (t + 1) _ (by omega) (fun j hj => ?_) (fun a ha => ?_) (hR.upA (by decide)) (by rw [x_up_ne (by decide)]; exact hm) (by rw [x_up_ne (by decide)]; exact hc) hF
    · by_cases c : j = t
      · subst c; exact x_up_s
      · rw [x_up_k (by omega)]; exact h1 j (by omega)
    · rw [x_up_k (by omega)]; exact h2 a ha
theorem l_mo_smp47 {s : Nat} {sn : Nat → Nat} {sl : Nat → Nat → Nat} {n w F : Int} {o : Option (Nat × Int)} {L : List Nat} {G : Nat → Nat → Int} (hL : x_SL L) (hF : x_Fin xFL G) (hS : mSm s sn sl G) (hw : -2147483648 ≤ w ∧ w < 2147483648) (h : (F = 1 ∧ (1 ≤ n ∧ n ≤ 8 ∧ zgood w n.toNat)) ∨ (F = 0 ∧ ¬ (1 ≤ n ∧ n ≤ 8 ∧ zgood w n.toNat))) :
    X mX12_sample 2 0 0 (pSmp L G s sn sl w n) 47 [some (vR 127), some (vI w), some (vI n), some (vI F), o] [] L G 0 0 := by
  obtain ⟨s1, s2, s3⟩ := id hS
  rcases h with ⟨rfl, h⟩ | ⟨rfl, h⟩
  · obtain ⟨n, rfl⟩ : ∃ k : Nat, n = k := ⟨n.toNat, by omega⟩
    have h' := h
    rw [Int.toNat_natCast] at h'
    refine x_iloadn (pc := 47) dX12_sample_47 rfl ?_
    refine x_ine (tgt := 54) (pc := 48) dX12_sample_48 (by decide) (by omega) (fun c_48 => ?_) (fun c_48 => ?_)
    rotate_left
    · skip
      exact absurd c_48 (by decide)
    refine x_aloadn (pc := 54) dX12_sample_54 rfl ?_
    refine x_getI (pc := 55) dX12_sample_55 fl_X12_349 k_127 (hL 127 (by decide) (by decide)) ?_
    refine x_bipush (pc := 58) dX12_sample_58 (by decide) ?_
    refine x_cne (tgt := 66) (pc := 60) dX12_sample_60 (by decide) (by omega) (fun c_60 => ?_) (fun c_60 => ?_)
    · skip
      refine x_iconst (pc := 66) dX12_sample_66 ?_
      refine x_istore (pc := 67) dX12_sample_67 (by decide) rfl ?_
      exact l_mo_smpW (s := s) (n := n) hL hS (by omega) hw (by omega) (by omega) h'.2.2 n 0 _ (by omega) (fun j hj => absurd hj (Nat.not_lt_zero j)) (fun a _ => rfl) FM.rf rfl s1 hF
    · skip
      refine x_bipush (pc := 63) dX12_sample_63 (by decide) ?_
      refine x_rI (pc := 65) dX12_sample_65 rfl ?_
      exact Or.inr (Or.inl ⟨h, by omega, rfl, rfl⟩)
  · skip
    refine x_iloadn (pc := 47) dX12_sample_47 rfl ?_
    refine x_ine (tgt := 54) (pc := 48) dX12_sample_48 (by decide) (by omega) (fun c_48 => ?_) (fun c_48 => ?_)
    · skip
      exact absurd rfl c_48
    refine x_bipush (pc := 51) dX12_sample_51 (by decide) ?_
    refine x_rI (pc := 53) dX12_sample_53 rfl ?_
    exact Or.inl ⟨h, rfl, rfl⟩
theorem l_mo_smp {s n : Nat} {sn : Nat → Nat} {sl : Nat → Nat → Nat} {w : Int} {L : List Nat} {G : Nat → Nat → Int} (hL : x_SL L) (hF : x_Fin xFL G) (hS : mSm s sn sl G) (hw : -2147483648 ≤ w ∧ w < 2147483648) (hn1 : 1 ≤ n) (hn : n ≤ 8) :
    ∀ (k t : Nat), t + k = n → zgood w t → X mX12_sample 2 0 0 (pSmp L G s sn sl w n) 13 [some (vR 127), some (vI w), some (vI n), some (vI 1), some (vI t)] [] L G 0 0 := by
  intro k
  induction k with
  | zero =>
    intro t ht hg
    have ht : t = n := by omega
    subst ht
    refine x_iloadn (pc := 13) dX12_sample_13 rfl ?_
    refine x_ieq (tgt := 47) (pc := 14) dX12_sample_14 (by decide) (by omega) (fun c_14 => ?_) (fun c_14 => ?_)
    · skip
      exact absurd c_14 (by decide)
    refine x_iload (pc := 17) dX12_sample_17 rfl ?_
    refine x_iloadn (pc := 19) dX12_sample_19 rfl ?_
    refine x_cge (tgt := 47) (pc := 20) dX12_sample_20 (by decide) (by omega) (fun c_20 => ?_) (fun c_20 => ?_)
    rotate_left
    · skip
      exact absurd c_20 (by omega)
    exact l_mo_smp47 hL hF hS hw (Or.inl ⟨rfl, by omega, by omega, by rw [Int.toNat_natCast]; exact hg⟩)
  | succ k ih =>
    intro t ht hg
    have hzl : (w / 2 ^ (2 * t)) % 4 = zlet w t := rfl
    have hzb := zlet_bd w t
    by_cases c : zlet w t < 3
    · skip
      refine x_iloadn (pc := 13) dX12_sample_13 rfl ?_
      refine x_ieq (tgt := 47) (pc := 14) dX12_sample_14 (by decide) (by omega) (fun c_14 => ?_) (fun c_14 => ?_)
      · skip
        exact absurd c_14 (by decide)
      refine x_iload (pc := 17) dX12_sample_17 rfl ?_
      refine x_iloadn (pc := 19) dX12_sample_19 rfl ?_
      refine x_cge (tgt := 47) (pc := 20) dX12_sample_20 (by decide) (by omega) (fun c_20 => ?_) (fun c_20 => ?_)
      · skip
        exact absurd c_20 (by omega)
      refine x_iloadn (pc := 23) dX12_sample_23 rfl ?_
      refine x_iconst (pc := 24) dX12_sample_24 ?_
      refine x_iload (pc := 25) dX12_sample_25 rfl ?_
      refine x_imul (pc := 27) dX12_sample_27 ?_
      refine x_ishr (pc := 28) dX12_sample_28 (2 * t) (by omega) (by omega) (by omega) ?_
      refine x_iconst (pc := 29) dX12_sample_29 ?_
      refine x_iandm (pc := 30) dX12_sample_30 2 4 (by decide) (by decide) (by decide) ?_
      rw [hzl]
      refine x_iconst (pc := 31) dX12_sample_31 ?_
      refine x_cge (tgt := 39) (pc := 32) dX12_sample_32 (by decide) (by omega) (fun c_32 => ?_) (fun c_32 => ?_)
      · skip
        exact absurd c_32 (by omega)
      refine x_iconst (pc := 35) dX12_sample_35 ?_
      refine x_goto (tgt := 40) (pc := 36) dX12_sample_36 (by decide) ?_
      refine x_istoren (pc := 40) dX12_sample_40 rfl (by decide) rfl ?_
      refine x_iinc (pc := 41) dX12_sample_41 rfl (by decide) rfl ?_
      refine x_goto (tgt := 13) (pc := 44) dX12_sample_44 (by decide) ?_
      exact ih (t + 1) (by omega) (zgood_s hg c)
    · skip
      refine x_iloadn (pc := 13) dX12_sample_13 rfl ?_
      refine x_ieq (tgt := 47) (pc := 14) dX12_sample_14 (by decide) (by omega) (fun c_14 => ?_) (fun c_14 => ?_)
      · skip
        exact absurd c_14 (by decide)
      refine x_iload (pc := 17) dX12_sample_17 rfl ?_
      refine x_iloadn (pc := 19) dX12_sample_19 rfl ?_
      refine x_cge (tgt := 47) (pc := 20) dX12_sample_20 (by decide) (by omega) (fun c_20 => ?_) (fun c_20 => ?_)
      · skip
        exact absurd c_20 (by omega)
      refine x_iloadn (pc := 23) dX12_sample_23 rfl ?_
      refine x_iconst (pc := 24) dX12_sample_24 ?_
      refine x_iload (pc := 25) dX12_sample_25 rfl ?_
      refine x_imul (pc := 27) dX12_sample_27 ?_
      refine x_ishr (pc := 28) dX12_sample_28 (2 * t) (by omega) (by omega) (by omega) ?_
      refine x_iconst (pc := 29) dX12_sample_29 ?_
      refine x_iandm (pc := 30) dX12_sample_30 2 4 (by decide) (by decide) (by decide) ?_
      rw [hzl]
      refine x_iconst (pc := 31) dX12_sample_31 ?_
      refine x_cge (tgt := 39) (pc := 32) dX12_sample_32 (by decide) (by omega) (fun c_32 => ?_) (fun c_32 => ?_)
      rotate_left
      · skip
        exact absurd c_32 (by omega)
      refine x_iconst (pc := 39) dX12_sample_39 ?_
      refine x_istoren (pc := 40) dX12_sample_40 rfl (by decide) rfl ?_
      refine x_iinc (pc := 41) dX12_sample_41 rfl (by decide) rfl ?_
      refine x_goto (tgt := 13) (pc := 44) dX12_sample_44 (by decide) ?_
      refine x_iloadn (pc := 13) dX12_sample_13 rfl ?_; refine x_ieq (tgt := 47) (pc := 14) dX12_sample_14 (by decide) (by decide) (fun _ => ?_) (fun q => absurd rfl q); exact l_mo_smp47 hL hF hS hw (Or.inr ⟨rfl, fun q => by have := q.2.2 t (by omega); omega⟩)
theorem c_mo_sample {s : Nat} {sn : Nat → Nat} {sl : Nat → Nat → Nat} {w n : Int} {L : List Nat} {G : Nat → Nat → Int} (hL : x_SL L) (hF : x_Fin xFL G) (hS : mSm s sn sl G) (hw : -2147483648 ≤ w ∧ w < 2147483648) (hn : -2147483648 ≤ n ∧ n < 2147483648) :
    CM yX12_sample mX12_sample 2 0 0 [vR 127, vI w, vI n] L G (pSmp L G s sn sl w n) := by
  refine Ct.of_X (μ := mX12_sample) rfl rfl (by decide) (fun h => by cases h) (Nat.le_of_ble_eq_true rfl) rfl ?_
  refine x_iloadn (pc := 0) dX12_sample_0 rfl ?_
  refine x_i2l (pc := 1) dX12_sample_1 (by omega) ?_
  refine x_lconst (x := 1) (pc := 2) dX12_sample_2 (by decide) ?_
  refine x_ldc2 (pc := 3) dX12_sample_3 co_X12_135 ?_
  refine x_cSI (pc := 6) dX12_sample_6 lk_X12_131 (c_mo_in (by omega)) (⟨by decide, by decide⟩) (Nat.le_of_ble_eq_true rfl) rfl ?_
  rintro x G' ⟨rfl, rfl⟩
  refine x_istoren (pc := 9) dX12_sample_9 rfl (by decide) rfl ?_
  refine x_iconst (pc := 10) dX12_sample_10 ?_
  refine x_istore (pc := 11) dX12_sample_11 (by decide) rfl ?_
  by_cases g1 : 1 ≤ n ∧ n ≤ 8
  · rw [if_pos g1]
    obtain ⟨m, rfl⟩ : ∃ m : Nat, n = m := ⟨n.toNat, by omega⟩
    exact l_mo_smp hL hF hS hw (by omega) (by omega) m 0 (by omega) (fun j hj => absurd hj (Nat.not_lt_zero j))
  · rw [if_neg g1]
    refine x_iloadn (pc := 13) dX12_sample_13 rfl ?_; refine x_ieq (tgt := 47) (pc := 14) dX12_sample_14 (by decide) (by decide) (fun _ => ?_) (fun q => absurd rfl q); exact l_mo_smp47 hL hF hS hw (Or.inr ⟨rfl, fun q => g1 ⟨q.1, q.2.1⟩⟩)
/-! counts -/
def zcu (h : Nat → Nat) : Nat → Nat
  | 0 => 0
  | k + 1 => zcu h k + h k
theorem zcu_le {h : Nat → Nat} (hh : ∀ u, h u ≤ 1) : ∀ k, zcu h k ≤ k
  | 0 => Nat.le_refl _
  | k + 1 => by have := zcu_le hh k; have := hh k; rw [zcu]; omega
def zpp (pn : Nat → Nat) (u : Nat) : Nat := if 0 < pn u then 1 else 0
theorem zpp_le (pn : Nat → Nat) : ∀ u, zpp pn u ≤ 1 := fun u => by unfold zpp; split <;> omega
theorem zub_le (S : Nat → Nat) (I : Nat → Nat → Nat) (m : Nat) : ∀ u, zub S I m u ≤ 1 := fun u => by have := zub_lt S I m u; omega
def zcount (m n s : Nat) (pn S : Nat → Nat) (I : Nat → Nat → Nat) (w : Int) : Int := if w = 0 then m else if w = 1 then n else if w = 2 then zcu (zub S I (2 * m)) 4 else if w = 3 then s else if w = 4 then zcu (zpp pn) 4 else -3
theorem l_Eq_unk {m : Nat} {S : Nat → Nat} {I : Nat → Nat → Nat} {L : List Nat} {G : Nat → Nat → Int} (hL : x_SL L) (hF : x_Fin xFL G) (hE : cEq m S I G) :
    ∀ (k t : Nat), t + k = 4 → X mX3_unknowns 4 0 0 (qI L fun x G' => x = zcu (zub S I (2 * m)) 4 ∧ G' = G) 4 [some (vR 4), some (vI (zcu (zub S I (2 * m)) t)), some (vI t)] [] L G 0 0 := by
  intro k
  induction k with
  | zero =>
    intro t ht
    have ht : t = 4 := by omega
    subst ht
    have hb := zcu_le (zub_le S I (2 * m)) 4
    refine x_iloadn (pc := 4) dX3_unknowns_4 rfl ?_
    refine x_iconst (pc := 5) dX3_unknowns_5 ?_
    refine x_cge (tgt := 26) (pc := 6) dX3_unknowns_6 (by decide) (by omega) (fun c_6 => ?_) (fun c_6 => ?_)
    rotate_left
    · skip
      exact absurd c_6 (by omega)
    refine x_iloadn (pc := 26) dX3_unknowns_26 rfl ?_
    refine x_rI (pc := 27) dX3_unknowns_27 rfl ?_
    exact ⟨rfl, rfl⟩
  | succ k ih =>
    intro t ht
    have hb := zcu_le (zub_le S I (2 * m)) t
    have hb2 := zub_lt S I (2 * m) t
    have ih2 := ih (t + 1) (by omega)
    rw [show zcu (zub S I (2 * m)) (t + 1) = zcu (zub S I (2 * m)) t + zub S I (2 * m) t from rfl] at ih2
    refine x_iloadn (pc := 4) dX3_unknowns_4 rfl ?_
    refine x_iconst (pc := 5) dX3_unknowns_5 ?_
    refine x_cge (tgt := 26) (pc := 6) dX3_unknowns_6 (by decide) (by omega) (fun c_6 => ?_) (fun c_6 => ?_)
    · skip
      exact absurd c_6 (by omega)
    refine x_aloadn (pc := 9) dX3_unknowns_9 rfl ?_
    refine x_iloadn (pc := 10) dX3_unknowns_10 rfl ?_
    refine x_cVI (pc := 11) dX3_unknowns_11 lk_X3_44 (c_Eq_hasU hL hF hE (by omega)) k_4 ⟨by decide, rfl⟩ (hL 4 (by decide) (by decide)) (⟨by decide, by decide⟩) (Nat.le_of_ble_eq_true rfl) rfl ?_
    rintro x G' ⟨rfl, rfl⟩
    refine x_ieq (tgt := 20) (pc := 14) dX3_unknowns_14 (by decide) (by omega) (fun c_14 => ?_) (fun c_14 => ?_)
    · skip
      refine x_iinc (pc := 20) dX3_unknowns_20 rfl (by decide) rfl ?_
      refine x_goto (tgt := 4) (pc := 23) dX3_unknowns_23 (by decide) ?_
      first
      | (rw [show zub S I (2 * m) t = 0 by omega] at ih2; exact ih2)
      | (rw [show zub S I (2 * m) t = 1 by omega] at ih2; exact ih2)
    · skip
      refine x_iinc (pc := 17) dX3_unknowns_17 rfl (by decide) rfl ?_
      refine x_iinc (pc := 20) dX3_unknowns_20 rfl (by decide) rfl ?_
      refine x_goto (tgt := 4) (pc := 23) dX3_unknowns_23 (by decide) ?_
      first
      | (rw [show zub S I (2 * m) t = 0 by omega] at ih2; exact ih2)
      | (rw [show zub S I (2 * m) t = 1 by omega] at ih2; exact ih2)
theorem c_Eq_unk {m : Nat} {S : Nat → Nat} {I : Nat → Nat → Nat} {L : List Nat} {G : Nat → Nat → Int} (hL : x_SL L) (hF : x_Fin xFL G) (hE : cEq m S I G) :
    CM yX3_unknowns mX3_unknowns 4 0 0 [vR 4] L G (qI L fun x G' => x = zcu (zub S I (2 * m)) 4 ∧ G' = G) := by
  refine Ct.of_X (μ := mX3_unknowns) rfl rfl (by decide) (fun h => by cases h) (Nat.le_of_ble_eq_true rfl) rfl ?_
  refine x_iconst (pc := 0) dX3_unknowns_0 ?_
  refine x_istoren (pc := 1) dX3_unknowns_1 rfl (by decide) rfl ?_
  refine x_iconst (pc := 2) dX3_unknowns_2 ?_
  refine x_istoren (pc := 3) dX3_unknowns_3 rfl (by decide) rfl ?_
  exact l_Eq_unk hL hF hE 4 0 (by omega)
theorem l_ts_pwi {pn : Nat → Nat} {pl : Nat → Nat → Nat} {L : List Nat} {G : Nat → Nat → Int} (hL : x_SL L) (hF : x_Fin xFL G) (hP : cPt pn pl G) :
    ∀ (k t : Nat), t + k = 4 → X mX11_patternsWithItems 1 0 0 (qI L fun x G' => x = zcu (zpp pn) 4 ∧ G' = G) 4 [some (vR 1), some (vI (zcu (zpp pn) t)), some (vI t)] [] L G 0 0 := by
  intro k
  induction k with
  | zero =>
    intro t ht
    have ht : t = 4 := by omega
    subst ht
    have hb := zcu_le (zpp_le pn) 4
    refine x_iloadn (pc := 4) dX11_patternsWithItems_4 rfl ?_
    refine x_iconst (pc := 5) dX11_patternsWithItems_5 ?_
    refine x_cge (tgt := 30) (pc := 6) dX11_patternsWithItems_6 (by decide) (by omega) (fun c_6 => ?_) (fun c_6 => ?_)
    rotate_left
    · skip
      exact absurd c_6 (by omega)
    refine x_iloadn (pc := 30) dX11_patternsWithItems_30 rfl ?_
    refine x_rI (pc := 31) dX11_patternsWithItems_31 rfl ?_
    exact ⟨rfl, rfl⟩
  | succ k ih =>
    intro t ht
    have hb := zcu_le (zpp_le pn) t
    have hx := pt_sd (i := t) (by omega)
    have ih2 := ih (t + 1) (by omega)
    have hpt := (hP t (by omega)).2.1
    rw [show zcu (zpp pn) (t + 1) = zcu (zpp pn) t + zpp pn t from rfl] at ih2
    refine x_iloadn (pc := 4) dX11_patternsWithItems_4 rfl ?_
    refine x_iconst (pc := 5) dX11_patternsWithItems_5 ?_
    refine x_cge (tgt := 30) (pc := 6) dX11_patternsWithItems_6 (by decide) (by omega) (fun c_6 => ?_) (fun c_6 => ?_)
    · skip
      exact absurd c_6 (by omega)
    refine x_aloadn (pc := 9) dX11_patternsWithItems_9 rfl ?_
    refine x_getR (87) (pc := 10) dX11_patternsWithItems_10 fl_X11_52 k_1 (hL 1 (by decide) (by decide)) (f_1_6 hF) ?_
    refine x_iloadn (pc := 13) dX11_patternsWithItems_13 rfl ?_
    refine x_aald (101 + 7 * t) (t) (pc := 14) dX11_patternsWithItems_14 k_87 (by decide) (hL 87 (by decide) (by decide)) (⟨by omega, by omega, by decide⟩) (hF _ (pt_fl t (by omega))) ?_
    refine x_cVI (pc := 15) dX11_patternsWithItems_15 lk_X11_215 (c_Sd_length hx hL (hP t (by omega))) (sd_k hx).1 ⟨by decide, rfl⟩ (sd_m hx hL 0 (by decide)) (⟨by decide, by decide⟩) (Nat.le_of_ble_eq_true rfl) rfl ?_
    rintro x G' ⟨rfl, rfl⟩
    refine x_ile (tgt := 24) (pc := 18) dX11_patternsWithItems_18 (by decide) (by omega) (fun c_18 => ?_) (fun c_18 => ?_)
    · skip
      refine x_iinc (pc := 24) dX11_patternsWithItems_24 rfl (by decide) rfl ?_
      refine x_goto (tgt := 4) (pc := 27) dX11_patternsWithItems_27 (by decide) ?_
      first
      | (rw [show zpp pn t = 0 from if_neg (by omega)] at ih2; exact ih2)
      | (rw [show zpp pn t = 1 from if_pos (by omega)] at ih2; exact ih2)
    · skip
      refine x_iinc (pc := 21) dX11_patternsWithItems_21 rfl (by decide) rfl ?_
      refine x_iinc (pc := 24) dX11_patternsWithItems_24 rfl (by decide) rfl ?_
      refine x_goto (tgt := 4) (pc := 27) dX11_patternsWithItems_27 (by decide) ?_
      first
      | (rw [show zpp pn t = 0 from if_neg (by omega)] at ih2; exact ih2)
      | (rw [show zpp pn t = 1 from if_pos (by omega)] at ih2; exact ih2)
theorem c_ts_pwi {pn : Nat → Nat} {pl : Nat → Nat → Nat} {L : List Nat} {G : Nat → Nat → Int} (hL : x_SL L) (hF : x_Fin xFL G) (hP : cPt pn pl G) :
    CM yX11_patternsWithItems mX11_patternsWithItems 1 0 0 [vR 1] L G (qI L fun x G' => x = zcu (zpp pn) 4 ∧ G' = G) := by
  refine Ct.of_X (μ := mX11_patternsWithItems) rfl rfl (by decide) (fun h => by cases h) (Nat.le_of_ble_eq_true rfl) rfl ?_
  refine x_iconst (pc := 0) dX11_patternsWithItems_0 ?_
  refine x_istoren (pc := 1) dX11_patternsWithItems_1 rfl (by decide) rfl ?_
  refine x_iconst (pc := 2) dX11_patternsWithItems_2 ?_
  refine x_istoren (pc := 3) dX11_patternsWithItems_3 rfl (by decide) rfl ?_
  exact l_ts_pwi hL hF hP 4 0 (by omega)
theorem c_ts_count {m n s : Nat} {b pn S : Nat → Nat} {I pl : Nat → Nat → Nat} {w : Int} {L : List Nat} {G : Nat → Nat → Int} (hL : x_SL L) (hF : x_Fin xFL G) (hE : cEq m S I G) (hT : cTx n b G) (hs : G 88 4 = s) (hs6 : s ≤ 6) (hP : cPt pn pl G) (hw : -2147483648 ≤ w ∧ w < 2147483648) :
    CM yX11_count mX11_count 5 0 0 [vR 1, vI w] L G (qI L fun x G' => x = zcount m n s pn S I w ∧ G' = G) := by
  refine Ct.of_X (μ := mX11_count) rfl rfl (by decide) (fun h => by cases h) (Nat.le_of_ble_eq_true rfl) rfl ?_
  refine x_iloadn (pc := 0) dX11_count_0 rfl ?_
  refine x_ine (tgt := 12) (pc := 1) dX11_count_1 (by decide) (by omega) (fun c_1 => ?_) (fun c_1 => ?_)
  · skip
    refine x_iloadn (pc := 12) dX11_count_12 rfl ?_
    refine x_iconst (pc := 13) dX11_count_13 ?_
    refine x_cne (tgt := 25) (pc := 14) dX11_count_14 (by decide) (by omega) (fun c_14 => ?_) (fun c_14 => ?_)
    · skip
      refine x_iloadn (pc := 25) dX11_count_25 rfl ?_
      refine x_iconst (pc := 26) dX11_count_26 ?_
      refine x_cne (tgt := 38) (pc := 27) dX11_count_27 (by decide) (by omega) (fun c_27 => ?_) (fun c_27 => ?_)
      · skip
        refine x_iloadn (pc := 38) dX11_count_38 rfl ?_
        refine x_iconst (pc := 39) dX11_count_39 ?_
        refine x_cne (tgt := 51) (pc := 40) dX11_count_40 (by decide) (by omega) (fun c_40 => ?_) (fun c_40 => ?_)
        · skip
          refine x_iloadn (pc := 51) dX11_count_51 rfl ?_
          refine x_iconst (pc := 52) dX11_count_52 ?_
          refine x_cne (tgt := 61) (pc := 53) dX11_count_53 (by decide) (by omega) (fun c_53 => ?_) (fun c_53 => ?_)
          · skip
            refine x_bipush (pc := 61) dX11_count_61 (by decide) ?_
            refine x_rI (pc := 63) dX11_count_63 rfl ?_
            refine ⟨?_, rfl⟩
            unfold zcount
            (repeat' split) <;> omega
          · skip
            refine x_aloadn (pc := 56) dX11_count_56 rfl ?_
            refine x_cVI (pc := 57) dX11_count_57 lk_X11_238 (c_ts_pwi hL hF hP) k_1 ⟨by decide, rfl⟩ (hL 1 (by decide) (by decide)) (⟨by decide, by decide⟩) (Nat.le_of_ble_eq_true rfl) rfl ?_
            rintro x G' ⟨rfl, rfl⟩
            refine x_rI (pc := 60) dX11_count_60 rfl ?_
            refine ⟨?_, rfl⟩
            unfold zcount
            (repeat' split) <;> omega
        · skip
          refine x_aloadn (pc := 43) dX11_count_43 rfl ?_
          refine x_getR (88) (pc := 44) dX11_count_44 fl_X11_59 k_1 (hL 1 (by decide) (by decide)) (f_1_7 hF) ?_
          refine x_cVI (pc := 47) dX11_count_47 lk_X11_230 (c_Sm_length hL hs hs6) k_88 ⟨by decide, rfl⟩ (hL 88 (by decide) (by decide)) (⟨by decide, by decide⟩) (Nat.le_of_ble_eq_true rfl) rfl ?_
          rintro x G' ⟨rfl, rfl⟩
          refine x_rI (pc := 50) dX11_count_50 rfl ?_
          refine ⟨?_, rfl⟩
          unfold zcount
          (repeat' split) <;> omega
      · skip
        refine x_aloadn (pc := 30) dX11_count_30 rfl ?_
        refine x_getR (4) (pc := 31) dX11_count_31 fl_X11_19 k_1 (hL 1 (by decide) (by decide)) (f_1_1 hF) ?_
        refine x_cVI (pc := 34) dX11_count_34 lk_X11_235 (c_Eq_unk hL hF hE) k_4 ⟨by decide, rfl⟩ (hL 4 (by decide) (by decide)) (⟨by decide, by decide⟩) (Nat.le_of_ble_eq_true rfl) rfl ?_
        rintro x G' ⟨rfl, rfl⟩
        refine x_rI (pc := 37) dX11_count_37 rfl ?_
        refine ⟨?_, rfl⟩
        unfold zcount
        (repeat' split) <;> omega
    · skip
      refine x_aloadn (pc := 17) dX11_count_17 rfl ?_
      refine x_getR (2) (pc := 18) dX11_count_18 fl_X11_10 k_1 (hL 1 (by decide) (by decide)) (f_1_0 hF) ?_
      refine x_cVI (pc := 21) dX11_count_21 lk_X11_75 (c_Tx_length hL hT) k_2 ⟨by decide, rfl⟩ (hL 2 (by decide) (by decide)) (⟨by decide, by decide⟩) (Nat.le_of_ble_eq_true rfl) rfl ?_
      rintro x G' ⟨rfl, rfl⟩
      refine x_rI (pc := 24) dX11_count_24 rfl ?_
      refine ⟨?_, rfl⟩
      unfold zcount
      (repeat' split) <;> omega
  · skip
    refine x_aloadn (pc := 4) dX11_count_4 rfl ?_
    refine x_getR (4) (pc := 5) dX11_count_5 fl_X11_19 k_1 (hL 1 (by decide) (by decide)) (f_1_1 hF) ?_
    refine x_cVI (pc := 8) dX11_count_8 lk_X11_93 (c_Eq_length hL hE) k_4 ⟨by decide, rfl⟩ (hL 4 (by decide) (by decide)) (⟨by decide, by decide⟩) (Nat.le_of_ble_eq_true rfl) rfl ?_
    rintro x G' ⟨rfl, rfl⟩
    refine x_rI (pc := 11) dX11_count_11 rfl ?_
    refine ⟨?_, rfl⟩
    unfold zcount
    (repeat' split) <;> omega

