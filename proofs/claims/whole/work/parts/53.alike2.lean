/-! classes of nodes: joining -/
def zjf (f : Nat → Nat) (a b : Nat) : Nat → Nat := fun i => if f i = max (f a) (f b) then min (f a) (f b) else f i
def zjm (f mk : Nat → Nat) (a b : Nat) : Nat → Nat := if f a = f b then mk else zup mk (min (f a) (f b)) (mk (min (f a) (f b)) &&& mk (max (f a) (f b)))
def cAl (r n : Nat) (f mk : Nat → Nat) (G : Nat → Nat → Int) : Prop := G r 2 = n ∧ n ≤ 60 ∧ (∀ i, i < n → G (r + 1) i = f i ∧ f i ≤ i) ∧ ∀ i, i < n → G (r + 2) i = mk i ∧ mk i < 8
theorem al_n {r : Nat} (h : xAl r) : r = 56 ∨ r = 84 := h
theorem l_Al_begin {r n : Nat} {L : List Nat} {G0 : Nat → Nat → Int} (hA : xAl r) (hL : x_SL L) (hn : n ≤ 60) :
    ∀ (k t : Nat) (G : Nat → Nat → Int), t + k = n → G r 2 = n → (∀ i, i < t → G (r + 1) i = i) → (∀ i, i < t → G (r + 2) i = 7) → FR [r, r + 1, r + 2] G0 G → x_Fin xFL G →
    X mX0_begin 1 0 0 (qV L fun G' => cAl r n (fun i => i) (fun _ => 7) G' ∧ FR [r, r + 1, r + 2] G0 G' ∧ x_Fin xFL G') 19 [some (vR r), some (vI n), some (vI t)] [] L G 0 0 := by
  intro k
  induction k with
  | zero =>
    intro t G ht h1 h2 h3 hR hF
    have ht : t = n := by omega
    subst ht
    refine x_iloadn (pc := 19) dX0_begin_19 rfl ?_
    refine x_aloadn (pc := 20) dX0_begin_20 rfl ?_
    refine x_getI (pc := 21) dX0_begin_21 fl_X0_18 (al_k0 hA) (al_m0 hA hL) ?_
    refine x_cge (tgt := 48) (pc := 24) dX0_begin_24 (by decide) (by omega) (fun c_24 => ?_) (fun c_24 => ?_)
    rotate_left
    · skip
      exact absurd c_24 (by omega)
    refine x_rV (pc := 48) dX0_begin_48 rfl ?_
    exact ⟨⟨h1, hn, fun i hi => ⟨h2 i hi, Nat.le_refl _⟩, fun i hi => ⟨h3 i hi, Nat.le_of_ble_eq_true rfl⟩⟩, hR, hF⟩
  | succ k ih =>
    intro t G ht h1 h2 h3 hR hF
    refine x_iloadn (pc := 19) dX0_begin_19 rfl ?_
    refine x_aloadn (pc := 20) dX0_begin_20 rfl ?_
    refine x_getI (pc := 21) dX0_begin_21 fl_X0_18 (al_k0 hA) (al_m0 hA hL) ?_
    refine x_cge (tgt := 48) (pc := 24) dX0_begin_24 (by decide) (by omega) (fun c_24 => ?_) (fun c_24 => ?_)
    · skip
      exact absurd c_24 (by omega)
    refine x_aloadn (pc := 27) dX0_begin_27 rfl ?_
    refine x_getR (r + 1) (pc := 28) dX0_begin_28 fl_X0_9 (al_k0 hA) (al_m0 hA hL) (al_f0 hA hF) ?_
    refine x_iloadn (pc := 31) dX0_begin_31 rfl ?_
    refine x_iloadn (pc := 32) dX0_begin_32 rfl ?_
    refine x_iastF (t) (pc := 33) dX0_begin_33 (al_k1 hA) (al_m1 hA hL) (⟨by omega, by omega, by decide⟩) hF (fun hF => ?_)
    refine x_aloadn (pc := 34) dX0_begin_34 rfl ?_
    refine x_getR (r + 2) (pc := 35) dX0_begin_35 fl_X0_15 (al_k0 hA) (al_m0 hA hL) (al_f1 hA hF) ?_
    refine x_iloadn (pc := 38) dX0_begin_38 rfl ?_
    refine x_bipush (pc := 39) dX0_begin_39 (by decide) ?_
    refine x_iastF (t) (pc := 41) dX0_begin_41 (al_k2 hA) (al_m2 hA hL) (⟨by omega, by omega, by decide⟩) hF (fun hF => ?_)
    refine x_iinc (pc := 42) dX0_begin_42 rfl (by decide) rfl ?_
    refine x_goto (tgt := 19) (pc := 45) dX0_begin_45 (by decide) ?_
    refine ih (t + 1) _ (by omega) (by rw [x_up_ne (by omega), x_up_ne (by omega)]; exact h1) (fun i hi => ?_) (fun i hi => ?_) ((hR.up (by simp)).up (by simp)) hF
    · rw [x_up_ne (by omega)]
      by_cases c : i = t
      · subst c; exact x_up_s
      · rw [x_up_k c]; exact h2 i (by omega)
    · by_cases c : i = t
      · subst c; exact x_up_s
      · rw [x_up_k c, x_up_ne (by omega)]; exact h3 i (by omega)
theorem c_Al_begin {r n : Nat} {L : List Nat} {G : Nat → Nat → Int} (hA : xAl r) (hL : x_SL L) (hF : x_Fin xFL G) (hn : n ≤ 60) :
    CM yX0_begin mX0_begin 1 0 0 [vR r, vI n] L G (qV L fun G' => cAl r n (fun i => i) (fun _ => 7) G' ∧ FR [r, r + 1, r + 2] G G' ∧ x_Fin xFL G') := by
  refine Ct.of_X (μ := mX0_begin) rfl rfl (by decide) (fun h => by cases h) (Nat.le_of_ble_eq_true rfl) rfl ?_
  refine x_aloadn (pc := 0) dX0_begin_0 rfl ?_
  refine x_iconst (pc := 1) dX0_begin_1 ?_
  refine x_iloadn (pc := 2) dX0_begin_2 rfl ?_
  refine x_aloadn (pc := 3) dX0_begin_3 rfl ?_
  refine x_getR (r + 1) (pc := 4) dX0_begin_4 fl_X0_9 (al_k0 hA) (al_m0 hA hL) (al_f0 hA hF) ?_
  refine x_alen (pc := 7) dX0_begin_7 (al_k1 hA) (by decide) (al_m1 hA hL) ?_
  refine x_mmin (pc := 8) dX0_begin_8 lk_X0_22 (by omega) (Nat.le_of_ble_eq_true rfl) (by omega) ?_
  refine x_mmax (pc := 11) dX0_begin_11 lk_X0_28 (by omega) (Nat.le_of_ble_eq_true rfl) (by omega) ?_
  have em : max (0 : Int) (min (n : Int) ((60 : Nat) : Int)) = n := by omega
  rw [em]
  refine x_putIF (pc := 14) dX0_begin_14 fp_X0_18 (al_k0 hA) (al_m0 hA hL) hF (fun hF => ?_)
  refine x_iconst (pc := 17) dX0_begin_17 ?_
  refine x_istoren (pc := 18) dX0_begin_18 rfl (by decide) rfl ?_
  exact l_Al_begin hA hL hn n 0 _ (by omega) x_up_s (fun i hi => absurd hi (Nat.not_lt_zero i)) (fun i hi => absurd hi (Nat.not_lt_zero i)) (FR.rf.up (by simp)) hF
theorem c_Al_allow {r n a m : Nat} {f mk : Nat → Nat} {L : List Nat} {G : Nat → Nat → Int} (hA : xAl r) (hL : x_SL L) (hF : x_Fin xFL G) (hC : cAl r n f mk G) (ha : a < n) (hm : m < 8) :
    CM yX0_allow mX0_allow 0 0 0 [vR r, vI a, vI m] L G (qV L fun G' => cAl r n f (zup mk a m) G' ∧ FR [r + 2] G G' ∧ x_Fin xFL G') := by
  obtain ⟨h1, h2, h3, h4⟩ := hC
  refine Ct.of_X (μ := mX0_allow) rfl rfl (by decide) (fun h => by cases h) (Nat.le_of_ble_eq_true rfl) rfl ?_
  refine x_iloadn (pc := 0) dX0_allow_0 rfl ?_
  refine x_ilt (tgt := 19) (pc := 1) dX0_allow_1 (by decide) (by omega) (fun c_1 => ?_) (fun c_1 => ?_)
  · skip
    exact absurd c_1 (by omega)
  refine x_iloadn (pc := 4) dX0_allow_4 rfl ?_
  refine x_aloadn (pc := 5) dX0_allow_5 rfl ?_
  refine x_getI (pc := 6) dX0_allow_6 fl_X0_18 (al_k0 hA) (al_m0 hA hL) ?_
  refine x_cge (tgt := 19) (pc := 9) dX0_allow_9 (by decide) (by omega) (fun c_9 => ?_) (fun c_9 => ?_)
  · skip
    exact absurd c_9 (by omega)
  refine x_aloadn (pc := 12) dX0_allow_12 rfl ?_
  refine x_getR (r + 2) (pc := 13) dX0_allow_13 fl_X0_15 (al_k0 hA) (al_m0 hA hL) (al_f1 hA hF) ?_
  refine x_iloadn (pc := 16) dX0_allow_16 rfl ?_
  refine x_iloadn (pc := 17) dX0_allow_17 rfl ?_
  refine x_iastF (a) (pc := 18) dX0_allow_18 (al_k2 hA) (al_m2 hA hL) (⟨by omega, by omega, by decide⟩) hF (fun hF => ?_)
  refine x_rV (pc := 19) dX0_allow_19 rfl ?_
  refine ⟨⟨by rw [x_up_ne (by omega)]; exact h1, h2, fun i hi => by rw [x_up_ne (by omega)]; exact h3 i hi, fun i hi => ?_⟩, FR.rf.up (by simp), hF⟩
  by_cases c : i = a
  · subst c; rw [zup_s]; exact ⟨x_up_s, hm⟩
  · rw [zup_n c, x_up_k c]; exact h4 i hi
theorem c_Al_letters {r n : Nat} {a : Int} {f mk : Nat → Nat} {L : List Nat} {G : Nat → Nat → Int} (hA : xAl r) (hL : x_SL L) (hF : x_Fin xFL G) (hC : cAl r n f mk G) (ha : -2147483648 ≤ a ∧ a < 2147483648) :
    CM yX0_letters mX0_letters 0 0 0 [vR r, vI a] L G (qI L fun x G' => x = (if 0 ≤ a ∧ a < n then (mk a.toNat : Int) else 0) ∧ G' = G) := by
  obtain ⟨h1, h2, h3, h4⟩ := hC
  refine Ct.of_X (μ := mX0_letters) rfl rfl (by decide) (fun h => by cases h) (Nat.le_of_ble_eq_true rfl) rfl ?_
  refine x_iloadn (pc := 0) dX0_letters_0 rfl ?_
  refine x_ilt (tgt := 21) (pc := 1) dX0_letters_1 (by decide) (by omega) (fun c_1 => ?_) (fun c_1 => ?_)
  · skip
    refine x_iconst (pc := 21) dX0_letters_21 ?_
    refine x_rI (pc := 22) dX0_letters_22 rfl ?_
    exact ⟨by split <;> first | rfl | omega, rfl⟩
  · skip
    refine x_iloadn (pc := 4) dX0_letters_4 rfl ?_
    refine x_aloadn (pc := 5) dX0_letters_5 rfl ?_
    refine x_getI (pc := 6) dX0_letters_6 fl_X0_18 (al_k0 hA) (al_m0 hA hL) ?_
    refine x_cge (tgt := 21) (pc := 9) dX0_letters_9 (by decide) (by omega) (fun c_9 => ?_) (fun c_9 => ?_)
    · skip
      refine x_iconst (pc := 21) dX0_letters_21 ?_
      refine x_rI (pc := 22) dX0_letters_22 rfl ?_
      exact ⟨by split <;> first | rfl | omega, rfl⟩
    · skip
      refine x_aloadn (pc := 12) dX0_letters_12 rfl ?_
      refine x_getR (r + 2) (pc := 13) dX0_letters_13 fl_X0_15 (al_k0 hA) (al_m0 hA hL) (al_f1 hA hF) ?_
      refine x_iloadn (pc := 16) dX0_letters_16 rfl ?_
      refine x_iald (a.toNat) (pc := 17) dX0_letters_17 (al_k2 hA) (al_m2 hA hL) (⟨by omega, by omega, by decide⟩) ?_
      rw [(h4 a.toNat (by omega)).1]
      refine x_goto (tgt := 22) (pc := 18) dX0_letters_18 (by decide) ?_
      refine x_rI (pc := 22) dX0_letters_22 rfl ?_
      exact ⟨by split <;> first | rfl | omega, rfl⟩
theorem l_Al_join {r n a b K g : Nat} {f mk : Nat → Nat} {L : List Nat} {G0 : Nat → Nat → Int} (hA : xAl r) (hL : x_SL L) (hn : n ≤ 60) (hKg : K < g) (hgn : g < n) (hfK : f K = K) (hf : ∀ i, i < n → f i ≤ i) (hm : ∀ i, i < n → G0 (r + 2) i = mk i ∧ mk i < 8) :
    ∀ (k t : Nat) (G : Nat → Nat → Int), t + k = n → g ≤ t → G r 2 = n → (∀ i, i < t → G (r + 1) i = (if f i = g then K else f i : Nat)) → (∀ i, t ≤ i → i < n → G (r + 1) i = f i) → FR [r + 1] G0 G → x_Fin xFL G →
    X mX0_join 1 0 0 (qI L fun x G' => x = (if mk K &&& mk g ≠ 0 then 1 else 0) ∧ G' r 2 = n ∧ (∀ i, i < n → G' (r + 1) i = (if f i = g then K else f i : Nat)) ∧ (∀ i, i < n → G' (r + 2) i = (zup mk K (mk K &&& mk g) i : Nat)) ∧ FR [r + 1, r + 2] G0 G' ∧ x_Fin xFL G') 71 [some (vR r), some (vI a), some (vI b), some (vI K), some (vI g), some (vI t)] [] L G 0 0 := by
  obtain ⟨mk1, mk2⟩ := hm K (by omega)
  obtain ⟨mg1, mg2⟩ := hm g (by omega)
  have hand : mk K &&& mk g < 8 := Nat.lt_of_le_of_lt Nat.and_le_left mk2
  intro k
  induction k with
  | zero =>
    intro t G ht hg h1 h2 h3 hR hF
    have ht : t = n := by omega
    subst ht
    have q1 : G (r + 2) K = mk K := by rw [hR _ (by simp)]; exact mk1
    have q2 : G (r + 2) g = mk g := by rw [hR _ (by simp)]; exact mg1
    have fin : ∀ i, i < t → x_up G (r + 2) K ((mk K &&& mk g : Nat) : Int) (r + 2) i = (zup mk K (mk K &&& mk g) i : Nat) := fun i hi => by
      by_cases c : i = K
      · subst c; rw [zup_s]; exact x_up_s
      · rw [zup_n c, x_up_k c, hR _ (by simp)]; exact (hm i hi).1
    refine x_iload (pc := 71) dX0_join_71 rfl ?_
    refine x_aloadn (pc := 73) dX0_join_73 rfl ?_
    refine x_getI (pc := 74) dX0_join_74 fl_X0_18 (al_k0 hA) (al_m0 hA hL) ?_
    refine x_cge (tgt := 106) (pc := 77) dX0_join_77 (by decide) (by omega) (fun c_77 => ?_) (fun c_77 => ?_)
    rotate_left
    · skip
      exact absurd c_77 (by omega)
    refine x_aloadn (pc := 106) dX0_join_106 rfl ?_
    refine x_getR (r + 2) (pc := 107) dX0_join_107 fl_X0_15 (al_k0 hA) (al_m0 hA hL) (al_f1 hA hF) ?_
    refine x_iloadn (pc := 110) dX0_join_110 rfl ?_
    refine x_dup2 (pc := 111) dX0_join_111 (fun h => by cases h) (fun h => by cases h) ?_
    refine x_iald (K) (pc := 112) dX0_join_112 (al_k2 hA) (al_m2 hA hL) (⟨by omega, by omega, by decide⟩) ?_
    refine x_aloadn (pc := 113) dX0_join_113 rfl ?_
    refine x_getR (r + 2) (pc := 114) dX0_join_114 fl_X0_15 (al_k0 hA) (al_m0 hA hL) (al_f1 hA hF) ?_
    refine x_iload (pc := 117) dX0_join_117 rfl ?_
    refine x_iald (g) (pc := 119) dX0_join_119 (al_k2 hA) (al_m2 hA hL) (⟨by omega, by omega, by decide⟩) ?_
    refine x_iandN (pc := 120) dX0_join_120 (mk K) (mk g) q1 q2 (by omega) ?_
    refine x_iastF (K) (pc := 121) dX0_join_121 (al_k2 hA) (al_m2 hA hL) (⟨by omega, by omega, by decide⟩) hF (fun hF => ?_)
    refine x_aloadn (pc := 122) dX0_join_122 rfl ?_
    refine x_getR (r + 2) (pc := 123) dX0_join_123 fl_X0_15 (al_k0 hA) (al_m0 hA hL) (al_f1 hA hF) ?_
    refine x_iloadn (pc := 126) dX0_join_126 rfl ?_
    refine x_iald (K) (pc := 127) dX0_join_127 (al_k2 hA) (al_m2 hA hL) (⟨by omega, by omega, by decide⟩) ?_
    rw [x_up_s]
    refine x_ieq (tgt := 135) (pc := 128) dX0_join_128 (by decide) (by omega) (fun c_128 => ?_) (fun c_128 => ?_)
    · skip
      refine x_iconst (pc := 135) dX0_join_135 ?_
      refine x_rZ (pc := 136) dX0_join_136 rfl (by omega) ?_
      refine ⟨?_, by rw [x_up_ne (by omega)]; exact h1, fun i hi => by rw [x_up_ne (by omega)]; exact h2 i hi, fin, (hR.mono (by simp <;> omega)).up (by simp), hF⟩
      first | (rw [if_neg (by omega)]; done) | (rw [if_pos (by omega)]; done)
    · skip
      refine x_iconst (pc := 131) dX0_join_131 ?_
      refine x_goto (tgt := 136) (pc := 132) dX0_join_132 (by decide) ?_
      refine x_rZ (pc := 136) dX0_join_136 rfl (by omega) ?_
      refine ⟨?_, by rw [x_up_ne (by omega)]; exact h1, fun i hi => by rw [x_up_ne (by omega)]; exact h2 i hi, fin, (hR.mono (by simp <;> omega)).up (by simp), hF⟩
      first | (rw [if_neg (by omega)]; done) | (rw [if_pos (by omega)]; done)
  | succ k ih =>
    intro t G ht hg h1 h2 h3 hR hF
    have hft := h3 t (by omega) (by omega)
    have hfl := hf t (by omega)
    refine x_iload (pc := 71) dX0_join_71 rfl ?_
    refine x_aloadn (pc := 73) dX0_join_73 rfl ?_
    refine x_getI (pc := 74) dX0_join_74 fl_X0_18 (al_k0 hA) (al_m0 hA hL) ?_
    refine x_cge (tgt := 106) (pc := 77) dX0_join_77 (by decide) (by omega) (fun c_77 => ?_) (fun c_77 => ?_)
    · skip
      exact absurd c_77 (by omega)
    refine x_aloadn (pc := 80) dX0_join_80 rfl ?_
    refine x_getR (r + 1) (pc := 81) dX0_join_81 fl_X0_9 (al_k0 hA) (al_m0 hA hL) (al_f0 hA hF) ?_
    refine x_iload (pc := 84) dX0_join_84 rfl ?_
    refine x_iald (t) (pc := 86) dX0_join_86 (al_k1 hA) (al_m1 hA hL) (⟨by omega, by omega, by decide⟩) ?_
    refine x_iload (pc := 87) dX0_join_87 rfl ?_
    refine x_cne (tgt := 100) (pc := 89) dX0_join_89 (by decide) (by omega) (fun c_89 => ?_) (fun c_89 => ?_)
    · skip
      refine x_iinc (pc := 100) dX0_join_100 rfl (by decide) rfl ?_
      refine x_goto (tgt := 71) (pc := 103) dX0_join_103 (by decide) ?_
      first
      | (refine ih (t + 1) _ (by omega) (by omega) (by rw [x_up_ne (by omega)]; exact h1) (fun i hi => ?_) (fun i hi hj => by rw [x_up_k (by omega)]; exact h3 i (by omega) hj) (hR.up (by simp)) hF
         by_cases c : i = t
         · subst c; rw [x_up_s, if_pos (by omega)]
         · rw [x_up_k c]; exact h2 i (by omega))
      | (refine ih (t + 1) _ (by omega) (by omega) h1 (fun i hi => ?_) (fun i hi hj => h3 i (by omega) hj) hR hF
         by_cases c : i = t
         · subst c; rw [if_neg (by omega)]; exact hft
         · exact h2 i (by omega))
    · skip
      refine x_aloadn (pc := 92) dX0_join_92 rfl ?_
      refine x_getR (r + 1) (pc := 93) dX0_join_93 fl_X0_9 (al_k0 hA) (al_m0 hA hL) (al_f0 hA hF) ?_
      refine x_iload (pc := 96) dX0_join_96 rfl ?_
      refine x_iloadn (pc := 98) dX0_join_98 rfl ?_
      refine x_iastF (t) (pc := 99) dX0_join_99 (al_k1 hA) (al_m1 hA hL) (⟨by omega, by omega, by decide⟩) hF (fun hF => ?_)
      refine x_iinc (pc := 100) dX0_join_100 rfl (by decide) rfl ?_
      refine x_goto (tgt := 71) (pc := 103) dX0_join_103 (by decide) ?_
      first
      | (refine ih (t + 1) _ (by omega) (by omega) (by rw [x_up_ne (by omega)]; exact h1) (fun i hi => ?_) (fun i hi hj => by rw [x_up_k (by omega)]; exact h3 i (by omega) hj) (hR.up (by simp)) hF
         by_cases c : i = t
         · subst c; rw [x_up_s, if_pos (by omega)]
         · rw [x_up_k c]; exact h2 i (by omega))
      | (refine ih (t + 1) _ (by omega) (by omega) h1 (fun i hi => ?_) (fun i hi hj => h3 i (by omega) hj) hR hF
         by_cases c : i = t
         · subst c; rw [if_neg (by omega)]; exact hft
         · exact h2 i (by omega))
theorem zjf_le {f : Nat → Nat} {a b i : Nat} (h : f i ≤ i) : zjf f a b i ≤ i := by
  unfold zjf
  by_cases c : f i = max (f a) (f b)
  · rw [if_pos c]; omega
  · rw [if_neg c]; exact h
theorem c_Al_join {r n a b : Nat} {f mk : Nat → Nat} {L : List Nat} {G : Nat → Nat → Int} (hA : xAl r) (hL : x_SL L) (hF : x_Fin xFL G) (hC : cAl r n f mk G) (ha : a < n) (hb : b < n) (hff : ∀ i, i < n → f (f i) = f i) :
    CM yX0_join mX0_join 1 0 0 [vR r, vI a, vI b] L G (qI L fun x G' => x = (if f a = f b ∨ mk (min (f a) (f b)) &&& mk (max (f a) (f b)) ≠ 0 then 1 else 0) ∧ cAl r n (zjf f a b) (zjm f mk a b) G' ∧ FR [r + 1, r + 2] G G' ∧ x_Fin xFL G') := by
  obtain ⟨h1, h2, h3, h4⟩ := id hC
  have fa := h3 a ha
  have fb := h3 b hb
  have ffa := hff a ha
  have ffb := hff b hb
  obtain ⟨K, hK⟩ : ∃ K, K = min (f a) (f b) := ⟨_, rfl⟩
  obtain ⟨g, hg⟩ : ∃ g, g = max (f a) (f b) := ⟨_, rfl⟩
  rw [← hK, ← hg]
  have eK : min (f a : Int) (f b : Int) = (K : Int) := by omega
  have eg : max (f a : Int) (f b : Int) = (g : Int) := by omega
  have zj : ∀ i, zjf f a b i = if f i = g then K else f i := fun i => by unfold zjf; rw [← hK, ← hg]
  refine Ct.of_X (μ := mX0_join) rfl rfl (by decide) (fun h => by cases h) (Nat.le_of_ble_eq_true rfl) rfl ?_
  by_cases c : f a = f b
  · have zm : zjm f mk a b = mk := if_pos c
    rw [if_pos (Or.inl c), zm]
    refine x_iloadn (pc := 0) dX0_join_0 rfl ?_
    refine x_ilt (tgt := 24) (pc := 1) dX0_join_1 (by decide) (by omega) (fun c_1 => ?_) (fun c_1 => ?_)
    · skip
      exact absurd c_1 (by omega)
    refine x_iloadn (pc := 4) dX0_join_4 rfl ?_
    refine x_aloadn (pc := 5) dX0_join_5 rfl ?_
    refine x_getI (pc := 6) dX0_join_6 fl_X0_18 (al_k0 hA) (al_m0 hA hL) ?_
    refine x_cge (tgt := 24) (pc := 9) dX0_join_9 (by decide) (by omega) (fun c_9 => ?_) (fun c_9 => ?_)
    · skip
      exact absurd c_9 (by omega)
    refine x_iloadn (pc := 12) dX0_join_12 rfl ?_
    refine x_ilt (tgt := 24) (pc := 13) dX0_join_13 (by decide) (by omega) (fun c_13 => ?_) (fun c_13 => ?_)
    · skip
      exact absurd c_13 (by omega)
    refine x_iloadn (pc := 16) dX0_join_16 rfl ?_
    refine x_aloadn (pc := 17) dX0_join_17 rfl ?_
    refine x_getI (pc := 18) dX0_join_18 fl_X0_18 (al_k0 hA) (al_m0 hA hL) ?_
    refine x_clt (tgt := 26) (pc := 21) dX0_join_21 (by decide) (by omega) (fun c_21 => ?_) (fun c_21 => ?_)
    rotate_left
    · skip
      exact absurd c_21 (by omega)
    refine x_aloadn (pc := 26) dX0_join_26 rfl ?_
    refine x_getR (r + 1) (pc := 27) dX0_join_27 fl_X0_9 (al_k0 hA) (al_m0 hA hL) (al_f0 hA hF) ?_
    refine x_iloadn (pc := 30) dX0_join_30 rfl ?_
    refine x_iald (a) (pc := 31) dX0_join_31 (al_k1 hA) (al_m1 hA hL) (⟨by omega, by omega, by decide⟩) ?_
    rw [fa.1]
    refine x_aloadn (pc := 32) dX0_join_32 rfl ?_
    refine x_getR (r + 1) (pc := 33) dX0_join_33 fl_X0_9 (al_k0 hA) (al_m0 hA hL) (al_f0 hA hF) ?_
    refine x_iloadn (pc := 36) dX0_join_36 rfl ?_
    refine x_iald (b) (pc := 37) dX0_join_37 (al_k1 hA) (al_m1 hA hL) (⟨by omega, by omega, by decide⟩) ?_
    rw [fb.1]
    refine x_mmin (pc := 38) dX0_join_38 lk_X0_22 (by omega) (Nat.le_of_ble_eq_true rfl) (by omega) ?_
    rw [eK]
    refine x_istoren (pc := 41) dX0_join_41 rfl (by decide) rfl ?_
    refine x_aloadn (pc := 42) dX0_join_42 rfl ?_
    refine x_getR (r + 1) (pc := 43) dX0_join_43 fl_X0_9 (al_k0 hA) (al_m0 hA hL) (al_f0 hA hF) ?_
    refine x_iloadn (pc := 46) dX0_join_46 rfl ?_
    refine x_iald (a) (pc := 47) dX0_join_47 (al_k1 hA) (al_m1 hA hL) (⟨by omega, by omega, by decide⟩) ?_
    rw [fa.1]
    refine x_aloadn (pc := 48) dX0_join_48 rfl ?_
    refine x_getR (r + 1) (pc := 49) dX0_join_49 fl_X0_9 (al_k0 hA) (al_m0 hA hL) (al_f0 hA hF) ?_
    refine x_iloadn (pc := 52) dX0_join_52 rfl ?_
    refine x_iald (b) (pc := 53) dX0_join_53 (al_k1 hA) (al_m1 hA hL) (⟨by omega, by omega, by decide⟩) ?_
    rw [fb.1]
    refine x_mmax (pc := 54) dX0_join_54 lk_X0_28 (by omega) (Nat.le_of_ble_eq_true rfl) (by omega) ?_
    rw [eg]
    refine x_istore (pc := 57) dX0_join_57 (by decide) rfl ?_
    refine x_iloadn (pc := 59) dX0_join_59 rfl ?_
    refine x_iload (pc := 60) dX0_join_60 rfl ?_
    refine x_cne (tgt := 67) (pc := 62) dX0_join_62 (by decide) (by omega) (fun c_62 => ?_) (fun c_62 => ?_)
    · skip
      exact absurd c_62 (by omega)
    refine x_iconst (pc := 65) dX0_join_65 ?_
    refine x_rZ (pc := 66) dX0_join_66 rfl (by omega) ?_
    refine ⟨rfl, ⟨h1, h2, fun i hi => ⟨?_, zjf_le (h3 i hi).2⟩, h4⟩, FR.rf, hF⟩
    rw [zj i]
    by_cases ci : f i = g
    · rw [if_pos ci, (h3 i hi).1]; omega
    · rw [if_neg ci]; exact (h3 i hi).1
  · have zm : zjm f mk a b = zup mk K (mk K &&& mk g) := by unfold zjm; rw [if_neg c, ← hK, ← hg]
    rw [zm]
    have hfK : f K = K := by rcases Nat.le_total (f a) (f b) with q | q; rw [show K = f a by omega]; exact ffa; rw [show K = f b by omega]; exact ffb
    have hmk : ∀ i, i < n → zup mk K (mk K &&& mk g) i < 8 := fun i hi => by
      by_cases ci : i = K
      · rw [ci, zup_s]; exact Nat.lt_of_le_of_lt Nat.and_le_left (h4 K (by omega)).2
      · rw [zup_n ci]; exact (h4 i hi).2
    refine x_iloadn (pc := 0) dX0_join_0 rfl ?_
    refine x_ilt (tgt := 24) (pc := 1) dX0_join_1 (by decide) (by omega) (fun c_1 => ?_) (fun c_1 => ?_)
    · skip
      exact absurd c_1 (by omega)
    refine x_iloadn (pc := 4) dX0_join_4 rfl ?_
    refine x_aloadn (pc := 5) dX0_join_5 rfl ?_
    refine x_getI (pc := 6) dX0_join_6 fl_X0_18 (al_k0 hA) (al_m0 hA hL) ?_
    refine x_cge (tgt := 24) (pc := 9) dX0_join_9 (by decide) (by omega) (fun c_9 => ?_) (fun c_9 => ?_)
    · skip
      exact absurd c_9 (by omega)
    refine x_iloadn (pc := 12) dX0_join_12 rfl ?_
    refine x_ilt (tgt := 24) (pc := 13) dX0_join_13 (by decide) (by omega) (fun c_13 => ?_) (fun c_13 => ?_)
    · skip
      exact absurd c_13 (by omega)
    refine x_iloadn (pc := 16) dX0_join_16 rfl ?_
    refine x_aloadn (pc := 17) dX0_join_17 rfl ?_
    refine x_getI (pc := 18) dX0_join_18 fl_X0_18 (al_k0 hA) (al_m0 hA hL) ?_
    refine x_clt (tgt := 26) (pc := 21) dX0_join_21 (by decide) (by omega) (fun c_21 => ?_) (fun c_21 => ?_)
    rotate_left
    · skip
      exact absurd c_21 (by omega)
    refine x_aloadn (pc := 26) dX0_join_26 rfl ?_
    refine x_getR (r + 1) (pc := 27) dX0_join_27 fl_X0_9 (al_k0 hA) (al_m0 hA hL) (al_f0 hA hF) ?_
    refine x_iloadn (pc := 30) dX0_join_30 rfl ?_
    refine x_iald (a) (pc := 31) dX0_join_31 (al_k1 hA) (al_m1 hA hL) (⟨by omega, by omega, by decide⟩) ?_
    rw [fa.1]
    refine x_aloadn (pc := 32) dX0_join_32 rfl ?_
    refine x_getR (r + 1) (pc := 33) dX0_join_33 fl_X0_9 (al_k0 hA) (al_m0 hA hL) (al_f0 hA hF) ?_
    refine x_iloadn (pc := 36) dX0_join_36 rfl ?_
    refine x_iald (b) (pc := 37) dX0_join_37 (al_k1 hA) (al_m1 hA hL) (⟨by omega, by omega, by decide⟩) ?_
    rw [fb.1]
    refine x_mmin (pc := 38) dX0_join_38 lk_X0_22 (by omega) (Nat.le_of_ble_eq_true rfl) (by omega) ?_
    rw [eK]
    refine x_istoren (pc := 41) dX0_join_41 rfl (by decide) rfl ?_
    refine x_aloadn (pc := 42) dX0_join_42 rfl ?_
    refine x_getR (r + 1) (pc := 43) dX0_join_43 fl_X0_9 (al_k0 hA) (al_m0 hA hL) (al_f0 hA hF) ?_
    refine x_iloadn (pc := 46) dX0_join_46 rfl ?_
    refine x_iald (a) (pc := 47) dX0_join_47 (al_k1 hA) (al_m1 hA hL) (⟨by omega, by omega, by decide⟩) ?_
    rw [fa.1]
    refine x_aloadn (pc := 48) dX0_join_48 rfl ?_
    refine x_getR (r + 1) (pc := 49) dX0_join_49 fl_X0_9 (al_k0 hA) (al_m0 hA hL) (al_f0 hA hF) ?_
    refine x_iloadn (pc := 52) dX0_join_52 rfl ?_
    refine x_iald (b) (pc := 53) dX0_join_53 (al_k1 hA) (al_m1 hA hL) (⟨by omega, by omega, by decide⟩) ?_
    rw [fb.1]
    refine x_mmax (pc := 54) dX0_join_54 lk_X0_28 (by omega) (Nat.le_of_ble_eq_true rfl) (by omega) ?_
    rw [eg]
    refine x_istore (pc := 57) dX0_join_57 (by decide) rfl ?_
    refine x_iloadn (pc := 59) dX0_join_59 rfl ?_
    refine x_iload (pc := 60) dX0_join_60 rfl ?_
    refine x_cne (tgt := 67) (pc := 62) dX0_join_62 (by decide) (by omega) (fun c_62 => ?_) (fun c_62 => ?_)
    rotate_left
    · skip
      exact absurd c_62 (by omega)
    refine x_iload (pc := 67) dX0_join_67 rfl ?_
    refine x_istore (pc := 69) dX0_join_69 (by decide) rfl ?_
    refine X.imp (fun v L' G' => ?_) (l_Al_join (a := a) (b := b) (K := K) (g := g) (f := f) (mk := mk) hA hL h2 (by omega) (by omega) hfK (fun i hi => (h3 i hi).2) h4 (n - g) g _ (by omega) (Nat.le_refl _) h1 (fun i hi => ?_) (fun i _ hi => (h3 i hi).1) FR.rf hF)
    · rintro ⟨rfl, x, rfl, hx, g1, g2, g3, g4, g5⟩
      refine ⟨rfl, x, rfl, ?_, ⟨g1, h2, fun i hi => ⟨?_, zjf_le (h3 i hi).2⟩, fun i hi => ⟨g3 i hi, hmk i hi⟩⟩, g4, g5⟩
      · rw [hx]
        by_cases cz : mk K &&& mk g ≠ 0
        · rw [if_pos cz, if_pos (Or.inr cz)]
        · rw [if_neg cz, if_neg (fun q => q.elim c cz)]
      · rw [zj i]; exact g2 i hi
    · have := (h3 i (by omega)).2
      rw [if_neg (by omega)]; exact (h3 i (by omega)).1

