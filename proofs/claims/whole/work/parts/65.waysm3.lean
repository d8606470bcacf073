/-! patterns making rows: the reference goes through all lengths -/
section XNP
variable {n m l zl : Nat} {I : Nat → Nat → Nat} {q : Nat} {R p T : Nat → Nat} {L : List Nat}
abbrev pNp (L : List Nat) (G0 : Nat → Nat → Int) (n : Nat) (I : Nat → Nat → Nat) (q m : Nat) (R p T : Nat → Nat) (l : Nat) : x_Q := qI L fun x G' => ((x = 1 ∧ ∃ p', zDg l T p' ∧ (∀ v, v < l → G' 165 v = p' v) ∧ zco p + zWl l ≤ zco p' ∧ zco p' < 923521 ∧ zPc (zPP n I q m R) (zco p') = zPc (zPP n I q m R) (zco p + zWl l)) ∨ (x = 0 ∧ zWays n I q m R = zPc (zPP n I q m R) (zco p + zWl l))) ∧ (∀ v, l ≤ v → G' 165 v = G0 165 v) ∧ FM [165] [] G0 G' ∧ x_Fin xFL G'
theorem l_mo_np {a : Int} {G0 : Nat → Nat → Int} (hL : x_SL L) (hT : zTt n I q T zl) (hl : zLa l T) (hD : zDg l T p) :
    ∀ (s : Nat) (G : Nat → Nat → Int) (o : Int), s ≤ l → (∀ v, v < s → G 165 v = p v) → (∀ v, s ≤ v → v < l → G 165 v = (if 0 < T v then 1 else 0 : Nat)) → (∀ v, l ≤ v → G 165 v = G0 165 v) → (o = 0 ∨ (o = 1 ∧ m ≤ zsu zl p T s + zrs T s (l - s))) → zAs n I q m R p l s → FM [165] [] G0 G → x_Fin xFL G →
    X mX12_nextPut 0 0 0 (pNp L G0 n I q m R p T l) 16 [some (vR 127), some (vI l), some (vI a), some (vI o), some (vI ((s : Int) - 1))] [] L G 0 0 := by
  intro s
  induction s with
  | zero =>
    intro G o hs h1 h2 h3 hB hA hQ hF
    refine x_iload (pc := 16) dX12_nextPut_16 rfl ?_
    refine x_ilt (tgt := 95) (pc := 18) dX12_nextPut_18 (by decide) (by omega) (fun c_18 => ?_) (fun c_18 => ?_)
    rotate_left
    · skip
      exact absurd c_18 (by omega)
    refine x_iconst (pc := 95) dX12_nextPut_95 ?_
    refine x_rZ (pc := 96) dX12_nextPut_96 rfl (by omega) ?_
    exact ⟨Or.inr ⟨rfl, zAs_0 hA (zco_hi hl.1 hD)⟩, h3, hQ, hF⟩
  | succ s ih =>
    intro G o hs h1 h2 h3 hB hA hQ hF
    have hps := h1 s (by omega)
    have hd := hD.1 s (by omega)
    have hl4 := hl.1
    rw [show ((s + 1 : Nat) : Int) - 1 = (s : Int) by omega]
    by_cases cT : T s = 0
    · have ps := hd.2.1 cT
      refine x_iload (pc := 16) dX12_nextPut_16 rfl ?_
      refine x_ilt (tgt := 95) (pc := 18) dX12_nextPut_18 (by decide) (by omega) (fun c_18 => ?_) (fun c_18 => ?_)
      · skip
        exact absurd c_18 (by omega)
      refine x_aloadn (pc := 21) dX12_nextPut_21 rfl ?_
      refine x_getR (165) (pc := 22) dX12_nextPut_22 fl_X12_123 k_127 (hL 127 (by decide) (by decide)) (f_127_51 hF) ?_
      refine x_iload (pc := 25) dX12_nextPut_25 rfl ?_
      refine x_iald (s) (pc := 27) dX12_nextPut_27 k_165 (hL 165 (by decide) (by decide)) (⟨by omega, by omega, by decide⟩) ?_
      refine x_ile (tgt := 89) (pc := 28) dX12_nextPut_28 (by decide) (by omega) (fun c_28 => ?_) (fun c_28 => ?_)
      rotate_left
      · skip
        exact absurd c_28 (by omega)
      refine x_iinc (pc := 89) dX12_nextPut_89 rfl (by decide) rfl ?_
      refine x_goto (tgt := 16) (pc := 92) dX12_nextPut_92 (by decide) ?_
      refine ih G o (by omega) (fun v hv => h1 v (by omega)) (fun v hv hvl => ?_) h3 ?_ (zAs_n hT hl (by omega) hD hA (Or.inl cT)) hQ hF
      · by_cases e : v = s
        · subst e; rw [if_neg (by omega), hps, ps]
        · exact h2 v (by omega) hvl
      · rcases hB with hB | hB
        · exact Or.inl hB
        · exact Or.inr ⟨hB.1, zBs_n (by omega) (Or.inl cT) hB.2⟩
    · have ps := hd.2.2 (by omega)
      have hup2 : ∀ v, s ≤ v → v < l → x_up G 165 s 1 165 v = (if 0 < T v then 1 else 0 : Nat) := fun v hv hvl => by
        by_cases e : v = s
        · subst e; rw [x_up_s, if_pos (by omega)]; rfl
        · rw [x_up_k e]; exact h2 v (by omega) hvl
      have hup1 : ∀ v, v < s → x_up G 165 s 1 165 v = p v := fun v hv => by rw [x_up_k (by omega)]; exact h1 v (by omega)
      have hup3 : ∀ v, l ≤ v → x_up G 165 s 1 165 v = G0 165 v := fun v hv => by rw [x_up_k (by omega)]; exact h3 v hv
      rcases hB with rfl | ⟨rfl, hB⟩
      · skip
        refine x_iload (pc := 16) dX12_nextPut_16 rfl ?_
        refine x_ilt (tgt := 95) (pc := 18) dX12_nextPut_18 (by decide) (by omega) (fun c_18 => ?_) (fun c_18 => ?_)
        · skip
          exact absurd c_18 (by omega)
        refine x_aloadn (pc := 21) dX12_nextPut_21 rfl ?_
        refine x_getR (165) (pc := 22) dX12_nextPut_22 fl_X12_123 k_127 (hL 127 (by decide) (by decide)) (f_127_51 hF) ?_
        refine x_iload (pc := 25) dX12_nextPut_25 rfl ?_
        refine x_iald (s) (pc := 27) dX12_nextPut_27 k_165 (hL 165 (by decide) (by decide)) (⟨by omega, by omega, by decide⟩) ?_
        refine x_ile (tgt := 89) (pc := 28) dX12_nextPut_28 (by decide) (by omega) (fun c_28 => ?_) (fun c_28 => ?_)
        · skip
          exact absurd c_28 (by omega)
        refine x_iloadn (pc := 31) dX12_nextPut_31 rfl ?_
        refine x_ine (tgt := 60) (pc := 32) dX12_nextPut_32 (by decide) (by omega) (fun c_32 => ?_) (fun c_32 => ?_)
        · skip
          exact absurd rfl c_32
        refine x_aloadn (pc := 35) dX12_nextPut_35 rfl ?_
        refine x_getR (165) (pc := 36) dX12_nextPut_36 fl_X12_123 k_127 (hL 127 (by decide) (by decide)) (f_127_51 hF) ?_
        refine x_iload (pc := 39) dX12_nextPut_39 rfl ?_
        refine x_iald (s) (pc := 41) dX12_nextPut_41 k_165 (hL 165 (by decide) (by decide)) (⟨by omega, by omega, by decide⟩) ?_
        refine x_bipush (pc := 42) dX12_nextPut_42 (by decide) ?_
        refine x_cge (tgt := 60) (pc := 44) dX12_nextPut_44 (by decide) (by omega) (fun c_44 => ?_) (fun c_44 => ?_)
        · skip
          refine x_iloadn (pc := 60) dX12_nextPut_60 rfl ?_
          refine x_ieq (tgt := 79) (pc := 61) dX12_nextPut_61 (by decide) (by omega) (fun c_61 => ?_) (fun c_61 => ?_)
          rotate_left
          · skip
            exact absurd rfl c_61
          refine x_iconst (pc := 79) dX12_nextPut_79 ?_
          refine x_istoren (pc := 80) dX12_nextPut_80 rfl (by decide) rfl ?_
          refine x_aloadn (pc := 81) dX12_nextPut_81 rfl ?_
          refine x_getR (165) (pc := 82) dX12_nextPut_82 fl_X12_123 k_127 (hL 127 (by decide) (by decide)) (f_127_51 hF) ?_
          refine x_iload (pc := 85) dX12_nextPut_85 rfl ?_
          refine x_iconst (pc := 87) dX12_nextPut_87 ?_
          refine x_iastF (s) (pc := 88) dX12_nextPut_88 k_165 (hL 165 (by decide) (by decide)) (⟨by omega, by omega, by decide⟩) hF (fun hF => ?_)
          refine x_iinc (pc := 89) dX12_nextPut_89 rfl (by decide) rfl ?_
          refine x_goto (tgt := 16) (pc := 92) dX12_nextPut_92 (by decide) ?_
          exact ih _ 0 (by omega) hup1 hup2 hup3 (Or.inl rfl) (zAs_n hT hl (by omega) hD hA (Or.inr (Or.inl (by omega)))) (hQ.upA (by decide)) hF
        · skip
          refine x_aloadn (pc := 47) dX12_nextPut_47 rfl ?_
          refine x_getR (165) (pc := 48) dX12_nextPut_48 fl_X12_123 k_127 (hL 127 (by decide) (by decide)) (f_127_51 hF) ?_
          refine x_iload (pc := 51) dX12_nextPut_51 rfl ?_
          refine x_dup2 (pc := 53) dX12_nextPut_53 (fun h => by cases h) (fun h => by cases h) ?_
          refine x_iald (s) (pc := 54) dX12_nextPut_54 k_165 (hL 165 (by decide) (by decide)) (⟨by omega, by omega, by decide⟩) ?_
          refine x_iconst (pc := 55) dX12_nextPut_55 ?_
          refine x_iadd (pc := 56) dX12_nextPut_56 ?_
          refine x_iastF (s) (pc := 57) dX12_nextPut_57 k_165 (hL 165 (by decide) (by decide)) (⟨by omega, by omega, by decide⟩) hF (fun hF => ?_)
          refine x_iconst (pc := 58) dX12_nextPut_58 ?_
          refine x_rZ (pc := 59) dX12_nextPut_59 rfl (by omega) ?_
          obtain ⟨g1, g2, g3, g4⟩ := zpn_ok hT hl (by omega) hD hA (by omega) (by omega)
          refine ⟨Or.inl ⟨rfl, _, g1, fun v hv => ?_, g2, g3, g4⟩, fun v hv => by rw [x_up_k (by omega)]; exact h3 v hv, hQ.upA (by decide), hF⟩
          unfold zpn
          by_cases c1 : v < s
          · rw [if_pos c1, x_up_k (by omega)]; exact h1 v (by omega)
          · rw [if_neg c1]
            by_cases c2 : v = s
            · subst c2; rw [if_pos rfl, x_up_s, hps]; rfl
            · rw [if_neg c2, if_pos hv, x_up_k c2]; exact h2 v (by omega) hv
      · have hA' := zAs_n hT hl (by omega) hD hA (Or.inr (Or.inr hB))
        refine x_iload (pc := 16) dX12_nextPut_16 rfl ?_
        refine x_ilt (tgt := 95) (pc := 18) dX12_nextPut_18 (by decide) (by omega) (fun c_18 => ?_) (fun c_18 => ?_)
        · skip
          exact absurd c_18 (by omega)
        refine x_aloadn (pc := 21) dX12_nextPut_21 rfl ?_
        refine x_getR (165) (pc := 22) dX12_nextPut_22 fl_X12_123 k_127 (hL 127 (by decide) (by decide)) (f_127_51 hF) ?_
        refine x_iload (pc := 25) dX12_nextPut_25 rfl ?_
        refine x_iald (s) (pc := 27) dX12_nextPut_27 k_165 (hL 165 (by decide) (by decide)) (⟨by omega, by omega, by decide⟩) ?_
        refine x_ile (tgt := 89) (pc := 28) dX12_nextPut_28 (by decide) (by omega) (fun c_28 => ?_) (fun c_28 => ?_)
        · skip
          exact absurd c_28 (by omega)
        refine x_iloadn (pc := 31) dX12_nextPut_31 rfl ?_
        refine x_ine (tgt := 60) (pc := 32) dX12_nextPut_32 (by decide) (by omega) (fun c_32 => ?_) (fun c_32 => ?_)
        rotate_left
        · skip
          exact absurd c_32 (by decide)
        refine x_iloadn (pc := 60) dX12_nextPut_60 rfl ?_
        refine x_ieq (tgt := 79) (pc := 61) dX12_nextPut_61 (by decide) (by omega) (fun c_61 => ?_) (fun c_61 => ?_)
        · skip
          exact absurd c_61 (by decide)
        refine x_aloadn (pc := 64) dX12_nextPut_64 rfl ?_
        refine x_getR (165) (pc := 65) dX12_nextPut_65 fl_X12_123 k_127 (hL 127 (by decide) (by decide)) (f_127_51 hF) ?_
        refine x_iload (pc := 68) dX12_nextPut_68 rfl ?_
        refine x_iald (s) (pc := 70) dX12_nextPut_70 k_165 (hL 165 (by decide) (by decide)) (⟨by omega, by omega, by decide⟩) ?_
        refine x_iconst (pc := 71) dX12_nextPut_71 ?_
        refine x_cne (tgt := 79) (pc := 72) dX12_nextPut_72 (by decide) (by omega) (fun c_72 => ?_) (fun c_72 => ?_)
        · skip
          refine x_iconst (pc := 79) dX12_nextPut_79 ?_
          refine x_istoren (pc := 80) dX12_nextPut_80 rfl (by decide) rfl ?_
          refine x_aloadn (pc := 81) dX12_nextPut_81 rfl ?_
          refine x_getR (165) (pc := 82) dX12_nextPut_82 fl_X12_123 k_127 (hL 127 (by decide) (by decide)) (f_127_51 hF) ?_
          refine x_iload (pc := 85) dX12_nextPut_85 rfl ?_
          refine x_iconst (pc := 87) dX12_nextPut_87 ?_
          refine x_iastF (s) (pc := 88) dX12_nextPut_88 k_165 (hL 165 (by decide) (by decide)) (⟨by omega, by omega, by decide⟩) hF (fun hF => ?_)
          refine x_iinc (pc := 89) dX12_nextPut_89 rfl (by decide) rfl ?_
          refine x_goto (tgt := 16) (pc := 92) dX12_nextPut_92 (by decide) ?_
          first
          | exact ih _ 1 (by omega) hup1 hup2 hup3 (Or.inr ⟨rfl, zBs_n (by omega) (Or.inr (by omega)) hB⟩) hA' (hQ.upA (by decide)) hF
          | exact ih _ 0 (by omega) hup1 hup2 hup3 (Or.inl rfl) hA' (hQ.upA (by decide)) hF
        · skip
          refine x_iconst (pc := 75) dX12_nextPut_75 ?_
          refine x_goto (tgt := 80) (pc := 76) dX12_nextPut_76 (by decide) ?_
          refine x_istoren (pc := 80) dX12_nextPut_80 rfl (by decide) rfl ?_
          refine x_aloadn (pc := 81) dX12_nextPut_81 rfl ?_
          refine x_getR (165) (pc := 82) dX12_nextPut_82 fl_X12_123 k_127 (hL 127 (by decide) (by decide)) (f_127_51 hF) ?_
          refine x_iload (pc := 85) dX12_nextPut_85 rfl ?_
          refine x_iconst (pc := 87) dX12_nextPut_87 ?_
          refine x_iastF (s) (pc := 88) dX12_nextPut_88 k_165 (hL 165 (by decide) (by decide)) (⟨by omega, by omega, by decide⟩) hF (fun hF => ?_)
          refine x_iinc (pc := 89) dX12_nextPut_89 rfl (by decide) rfl ?_
          refine x_goto (tgt := 16) (pc := 92) dX12_nextPut_92 (by decide) ?_
          first
          | exact ih _ 1 (by omega) hup1 hup2 hup3 (Or.inr ⟨rfl, zBs_n (by omega) (Or.inr (by omega)) hB⟩) hA' (hQ.upA (by decide)) hF
          | exact ih _ 0 (by omega) hup1 hup2 hup3 (Or.inl rfl) hA' (hQ.upA (by decide)) hF
theorem c_mo_nextPut {a : Int} {G : Nat → Nat → Int} (hL : x_SL L) (hF : x_Fin xFL G) (hT : zTt n I q T zl) (hl : zLa l T) (hD : zDg l T p) (hp : ∀ v, v < l → G 165 v = p v) (ha : a = m - zsu zl p T l) (hab : -2147483648 ≤ a ∧ a < 2147483648) :
    CM yX12_nextPut mX12_nextPut 0 0 0 [vR 127, vI l, vI a] L G (pNp L G n I q m R p T l) := by
  have hl4 := hl.1
  have key := fun o ho => l_mo_np (m := m) (G0 := G) (a := a) (R := R) hL hT hl hD l G o (Nat.le_refl _) hp (fun v h1 h2 => by omega) (fun _ _ => rfl) ho (zAs_l hl4 hD) FM.rf hF
  refine Ct.of_X (μ := mX12_nextPut) rfl rfl (by decide) (fun h => by cases h) (Nat.le_of_ble_eq_true rfl) rfl ?_
  refine x_iloadn (pc := 0) dX12_nextPut_0 rfl ?_
  refine x_iconst (pc := 1) dX12_nextPut_1 ?_
  refine x_cge (tgt := 9) (pc := 2) dX12_nextPut_2 (by decide) (by omega) (fun c_2 => ?_) (fun c_2 => ?_)
  · skip
    refine x_iconst (pc := 9) dX12_nextPut_9 ?_
    refine x_istoren (pc := 10) dX12_nextPut_10 rfl (by decide) rfl ?_
    refine x_iloadn (pc := 11) dX12_nextPut_11 rfl ?_
    refine x_iconst (pc := 12) dX12_nextPut_12 ?_
    refine x_isub (pc := 13) dX12_nextPut_13 ?_
    refine x_istore (pc := 14) dX12_nextPut_14 (by decide) rfl ?_
    first
    | exact key 1 (Or.inr ⟨rfl, by rw [Nat.sub_self]; show m ≤ zsu zl p T l + 0; omega⟩)
    | exact key 0 (Or.inl rfl)
  · skip
    refine x_iconst (pc := 5) dX12_nextPut_5 ?_
    refine x_goto (tgt := 10) (pc := 6) dX12_nextPut_6 (by decide) ?_
    refine x_istoren (pc := 10) dX12_nextPut_10 rfl (by decide) rfl ?_
    refine x_iloadn (pc := 11) dX12_nextPut_11 rfl ?_
    refine x_iconst (pc := 12) dX12_nextPut_12 ?_
    refine x_isub (pc := 13) dX12_nextPut_13 ?_
    refine x_istore (pc := 14) dX12_nextPut_14 (by decide) rfl ?_
    first
    | exact key 1 (Or.inr ⟨rfl, by rw [Nat.sub_self]; show m ≤ zsu zl p T l + 0; omega⟩)
    | exact key 0 (Or.inl rfl)
theorem zst_cg {p' : Nat → Nat} (hz : ∀ j, j < n → zV (I q j)) (h : ∀ u, u < 4 → p u = p' u) : ∀ k, k ≤ n → yst I q p k = yst I q p' k
  | 0, _ => rfl
  | k + 1, hk => by rw [yst, yst, zst_cg hz h k (by omega), zof_cg hz h k (by omega)]
theorem zMa_cg {p' : Nat → Nat} (hz : ∀ j, j < n → zV (I q j)) (h : ∀ u, u < 4 → p u = p' u) : zMa I q p R n ↔ zMa I q p' R n := by
  have e : ∀ k, k < n → (zMk I q p R k ↔ zMk I q p' R k) := fun k hk => by
    unfold zMk
    rw [zst_cg hz h k (by omega), zof_cg hz h k (by omega)]
    by_cases c : I q k < 4
    · rw [if_pos c, if_pos c]
    · rw [if_neg c, if_neg c, h _ (by have := (hz k hk).1; omega)]
  exact ⟨fun w k hk => (e k hk).mp (w k hk), fun w k hk => (e k hk).mpr (w k hk)⟩
/-- one row of first lengths counted -/
theorem zWst {z : Nat} (hT : zTt n I q T zl) (hl : zLa l T) (hD : zDg l T p) (hm : m ≤ 30) (hz1 : 0 < z → zsu zl p T l + z * T l = m) (hz0 : z = 0 → ∀ e, 1 ≤ e → zsu zl p T l + e * T l ≠ m) : zPc (zPP n I q m R) (zco p + zWl l) = zPc (zPP n I q m R) (zco p) + @ite Nat (0 < z ∧ zGl n I q m (zup p l z) R) (Classical.propDecidable _) 1 0 := by
  obtain ⟨l1, l2, l3⟩ := hl
  have d0 := hD.2
  have b0 := hD.1 0
  have b1 := hD.1 1
  have b2 := hD.1 2
  have hhi := zco_hi l1 hD
  -- what stands there is given by its length of unknown l
  have key : ∀ a b d e, (a ≤ 30 ∧ b ≤ 30 ∧ d ≤ 30 ∧ e ≤ 30) → zPP n I q m R (29791 * a + 961 * b + 31 * d + e) → zco p ≤ 29791 * a + 961 * b + 31 * d + e → 29791 * a + 961 * b + 31 * d + e < zco p + zWl l → ∃ g, 1 ≤ g ∧ zsu zl p T l + g * T l = m ∧ 29791 * a + 961 * b + 31 * d + e = zco (zup p l g) := by
    intro a b d e hb hP h1 h2
    obtain ⟨s1, s2, s3, s4, s5⟩ := zPP_dg hT hb hP
    rcases (show l = 0 ∨ l = 1 ∨ l = 2 ∨ l = 3 by omega) with rfl | rfl | rfl | rfl
    · have t1 := s3.1 (l3 1 (by decide) (by decide)); have t2 := s4.1 (l3 2 (by decide) (by decide)); have t3 := s5.1 (l3 3 (by decide) (by decide))
      subst t1; subst t2; subst t3
      have := d0 0 (by decide); have := d0 1 (by decide); have := d0 2 (by decide); have := d0 3 (by decide)
      simp [zsu, zco, zWl] at h1 h2 ⊢
      exact ⟨a, s2.2 l2, by omega, by simp [zup]; omega⟩
    · have t2 := s4.1 (l3 2 (by decide) (by decide)); have t3 := s5.1 (l3 3 (by decide) (by decide))
      subst t2; subst t3
      have := d0 1 (by decide); have := d0 2 (by decide); have := d0 3 (by decide); have := b0 (by decide)
      simp [zsu, zco, zWl] at h1 h2 ⊢
      have ea : a = p 0 := by omega
      subst ea
      exact ⟨b, s3.2 l2, by omega, by simp [zup]; omega⟩
    · have t3 := s5.1 (l3 3 (by decide) (by decide))
      subst t3
      have := d0 2 (by decide); have := d0 3 (by decide); have := b0 (by decide); have := b1 (by decide)
      simp [zsu, zco, zWl] at h1 h2 ⊢
      have ea : a = p 0 := by omega
      have eb : b = p 1 := by omega
      subst ea; subst eb
      exact ⟨d, s4.2 l2, by omega, by simp [zup]; omega⟩
    · have := d0 3 (by decide); have := b0 (by decide); have := b1 (by decide); have := b2 (by decide)
      simp [zsu, zco, zWl] at h1 h2 ⊢
      have ea : a = p 0 := by omega
      have eb : b = p 1 := by omega
      have ed : d = p 2 := by omega
      subst ea; subst eb; subst ed
      exact ⟨e, s5.2 l2, by omega, by simp [zup]⟩
  have key2 : ∀ c, zco p ≤ c → c < zco p + zWl l → zPP n I q m R c → ∃ g, 1 ≤ g ∧ zsu zl p T l + g * T l = m ∧ c = zco (zup p l g) := fun c h1 h2 hP => by
    have hq := zdg_eq (c := c) (by omega)
    have := key _ _ _ _ hq.2 (by rw [← hq.1]; exact hP) (by rw [← hq.1]; exact h1) (by rw [← hq.1]; exact h2)
    rw [← hq.1] at this
    exact this
  by_cases cz : z = 0
  · rw [if_neg (fun w => by omega)]
    exact zPc_skip _ (by omega) (fun c h1 h2 hP => by
      obtain ⟨g, g1, g2, _⟩ := key2 c h1 h2 hP
      exact hz0 cz g g1 g2)
  · have hz2 := hz1 (by omega)
    have hz30 : z ≤ 30 := by have := Nat.le_mul_of_pos_right z l2; omega
    have hin : zco p ≤ zco (zup p l z) ∧ zco (zup p l z) < zco p + zWl l := by
      rcases (show l = 0 ∨ l = 1 ∨ l = 2 ∨ l = 3 by omega) with rfl | rfl | rfl | rfl
      · have := d0 0 (by decide); simp [zco, zWl, zup]; omega
      · have := d0 1 (by decide); simp [zco, zWl, zup]; omega
      · have := d0 2 (by decide); simp [zco, zWl, zup]; omega
      · have := d0 3 (by decide); simp [zco, zWl, zup]; omega
    rw [zPc_one (c := zco (zup p l z)) hin.1 hin.2 (fun c h1 h2 hP => by
      obtain ⟨g, g1, g2, g3⟩ := key2 c h1 h2 hP
      have : g * T l = z * T l := by omega
      rw [g3, Nat.eq_of_mul_eq_mul_right l2 this])]
    have hpb : ∀ v, v < 4 → zup p l z v ≤ 30 := fun v hv => by
      by_cases e : v = l
      · rw [e, zup_s]; exact hz30
      · rw [zup_n e]
        by_cases e2 : v < l
        · exact (hD.1 v e2).1
        · rw [d0 v (by omega)]; decide
    obtain ⟨g0, g1, g2, g3⟩ := zdg_mk (hpb 0 (by decide)) (hpb 1 (by decide)) (hpb 2 (by decide)) (hpb 3 (by decide))
    have hdg : ∀ v, v < 4 → zdg (zco (zup p l z)) v = zup p l z v := fun v hv => by
      rcases (show v = 0 ∨ v = 1 ∨ v = 2 ∨ v = 3 by omega) with rfl | rfl | rfl | rfl
      · exact g0
      · exact g1
      · exact g2
      · exact g3
    have hV : zVd n I q m (zdg (zco (zup p l z))) ↔ yof I q (zup p l z) n = m := by
      unfold zVd
      rw [zof_cg hT.1 hdg n (Nat.le_refl _)]
      refine ⟨fun w => w.2, fun w => ⟨fun v hv => ?_, w⟩⟩
      rw [hdg v hv, hT.2.1 v hv]
      by_cases e : v = l
      · subst e; rw [zup_s]; omega
      · rw [zup_n e]
        by_cases e2 : v < l
        · exact (hD.1 v e2).2
        · have := l3 v (by omega) hv; rw [d0 v (by omega)]; omega
    have hiff : zPP n I q m R (zco (zup p l z)) ↔ (0 < z ∧ zGl n I q m (zup p l z) R) := by
      unfold zPP zP zGl
      rw [hV, zMa_cg hT.1 hdg]
      exact ⟨fun w => ⟨by omega, w⟩, fun w => w.2⟩
    rw [propext hiff]
end XNP

