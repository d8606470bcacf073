/-! patterns making rows: a quotient of less than nothing, rows alike, how a side is read -/
theorem z_divM {x y : Int} (h1 : -2147483648 < x) (h2 : x < 0) (h3 : 0 < y) (h4 : y < 2147483648) : ∃ z : Int, x ≤ z ∧ z ≤ 0 ∧ Int32.ofInt x / Int32.ofInt y = Int32.ofInt z := by
  have e : x.tdiv y = -((-x) / y) := by
    rw [← Int.tdiv_eq_ediv_of_nonneg (by omega), Int.neg_tdiv, Int.neg_neg]
  have hq : (-x) / y ≤ -x := Int.ediv_le_self y (by omega)
  have hq0 : 0 ≤ (-x) / y := Int.ediv_nonneg (by omega) (by omega)
  refine ⟨x.tdiv y, by omega, by omega, ?_⟩
  apply Int32.toInt_inj.mp
  rw [Int32.toInt_div_of_ne_right _ _ (fun e => by
    have := congrArg Int32.toInt e
    rw [z_in32 (by omega) h4] at this
    have h5 : (-1 : Int32).toInt = -1 := by decide
    omega), z_in32 (by omega) (by omega), z_in32 (by omega) h4, z_in32 (by omega) (by omega)]
section XR7
variable {μ : x_M} {d mc ms : Nat} {Q : x_Q} {pc : Nat} {ls : List (Option (Nat × Int))} {st : List (Nat × Int)} {L : List Nat} {G : Nat → Nat → Int} {k n : Nat}
theorem x_idivM {x y : Int} {pc : Nat} (hd : decode (x_cc μ) pc = .ok (.idiv, 1)) (hb : -2147483648 < x ∧ x < 0 ∧ 0 < y ∧ y < 2147483648) (kk : ∀ z : Int, x ≤ z → z ≤ 0 → X μ d mc ms Q (pc + 1) ls (vI z :: st) L G k n) : X μ d mc ms Q pc ls (vI y :: vI x :: st) L G k n := by
  intro p l e s m args below meth c D cy B L0 ρ0 Z H locs lsA ρ C hR hE hS hl ho hv h1 h2
  obtain ⟨z, q1, q2, q3⟩ := z_divM hb.1 hb.2.1 hb.2.2.1 hb.2.2.2
  refine lv_idiv C.1 C.2.1 hd (z_ne0 hb.2.2.1 hb.2.2.2) ?_
  refine x_eqW (s2 := (vI z :: st).map (x_rv ρ)) (by rw [List.map_cons, x_rvI]; exact congrArg (fun z => Value.int z :: st.map (x_rv ρ)) q3) ?_
  exact kk z q1 q2 p l e s m args below meth c D cy B L0 ρ0 Z H locs lsA ρ C hR hE hS hl (x_okA x_okI (x_okt ho)) hv h1 h2
end XR7
/-! two stretches alike -/
theorem l_ts_same {t N M a b n : Nat} {L : List Nat} {G : Nat → Nat → Int} (hk : xK t = (13, N)) (hr : t ∈ L) (hN : N ≤ 36000) (hM : M ≤ N) (ha : a + n ≤ M) (hb : b + n ≤ M) (hv : ∀ j, j < M → -2147483648 ≤ G t j ∧ G t j < 2147483648) :
    ∀ (k i : Nat), i + k = n → (∀ j, j < i → G t (a + j) = G t (b + j)) → X mX11_sameStretch 0 0 0 (qI L fun x G' => ((x = 1 ∧ ∀ j, j < n → G t (a + j) = G t (b + j)) ∨ (x = 0 ∧ ¬ ∀ j, j < n → G t (a + j) = G t (b + j))) ∧ G' = G) 29 [some (vR t), some (vI a), some (vI b), some (vI n), some (vI i)] [] L G 0 0 := by
  intro k
  induction k with
  | zero =>
    intro i hi h
    have hi : i = n := by omega
    subst hi
    refine x_iload (pc := 29) dX11_sameStretch_29 rfl ?_
    refine x_iloadn (pc := 31) dX11_sameStretch_31 rfl ?_
    refine x_cge (tgt := 58) (pc := 32) dX11_sameStretch_32 (by decide) (by omega) (fun c_32 => ?_) (fun c_32 => ?_)
    rotate_left
    · skip
      exact absurd c_32 (by omega)
    refine x_iconst (pc := 58) dX11_sameStretch_58 ?_
    refine x_rZ (pc := 59) dX11_sameStretch_59 rfl (by omega) ?_
    exact ⟨Or.inl ⟨rfl, h⟩, rfl⟩
  | succ k ih =>
    intro i hi h
    have va := hv (a + i) (by omega)
    have vb := hv (b + i) (by omega)
    refine x_iload (pc := 29) dX11_sameStretch_29 rfl ?_
    refine x_iloadn (pc := 31) dX11_sameStretch_31 rfl ?_
    refine x_cge (tgt := 58) (pc := 32) dX11_sameStretch_32 (by decide) (by omega) (fun c_32 => ?_) (fun c_32 => ?_)
    · skip
      exact absurd c_32 (by omega)
    refine x_aloadn (pc := 35) dX11_sameStretch_35 rfl ?_
    refine x_iloadn (pc := 36) dX11_sameStretch_36 rfl ?_
    refine x_iload (pc := 37) dX11_sameStretch_37 rfl ?_
    refine x_iadd (pc := 39) dX11_sameStretch_39 ?_
    refine x_iald (a + i) (pc := 40) dX11_sameStretch_40 hk hr (⟨by omega, by omega, by omega⟩) ?_
    refine x_aloadn (pc := 41) dX11_sameStretch_41 rfl ?_
    refine x_iloadn (pc := 42) dX11_sameStretch_42 rfl ?_
    refine x_iload (pc := 43) dX11_sameStretch_43 rfl ?_
    refine x_iadd (pc := 45) dX11_sameStretch_45 ?_
    refine x_iald (b + i) (pc := 46) dX11_sameStretch_46 hk hr (⟨by omega, by omega, by omega⟩) ?_
    refine x_ceq (tgt := 52) (pc := 47) dX11_sameStretch_47 (by decide) (by omega) (fun c_47 => ?_) (fun c_47 => ?_)
    · skip
      refine x_iinc (pc := 52) dX11_sameStretch_52 rfl (by decide) rfl ?_
      refine x_goto (tgt := 29) (pc := 55) dX11_sameStretch_55 (by decide) ?_
      exact ih (i + 1) (by omega) (fun j hj => by
        by_cases e : j = i
        · subst e; exact c_47
        · exact h j (by omega))
    · skip
      refine x_iconst (pc := 50) dX11_sameStretch_50 ?_
      refine x_rZ (pc := 51) dX11_sameStretch_51 rfl (by omega) ?_
      exact ⟨Or.inr ⟨rfl, fun q => c_47 (q i (by omega))⟩, rfl⟩
theorem c_ts_same {t N M a b n : Nat} {L : List Nat} {G : Nat → Nat → Int} (hk : xK t = (13, N)) (hr : t ∈ L) (hN : N ≤ 36000) (hM : M ≤ N) (ha : a + n ≤ M) (hb : b + n ≤ M) (hv : ∀ j, j < M → -2147483648 ≤ G t j ∧ G t j < 2147483648) :
    CM yX11_sameStretch mX11_sameStretch 0 0 0 [vR t, vI a, vI b, vI n] L G (qI L fun x G' => ((x = 1 ∧ ∀ j, j < n → G t (a + j) = G t (b + j)) ∨ (x = 0 ∧ ¬ ∀ j, j < n → G t (a + j) = G t (b + j))) ∧ G' = G) := by
  refine Ct.of_X (μ := mX11_sameStretch) rfl rfl (by decide) (fun h => by cases h) (Nat.le_of_ble_eq_true rfl) rfl ?_
  refine x_iloadn (pc := 0) dX11_sameStretch_0 rfl ?_
  refine x_ilt (tgt := 24) (pc := 1) dX11_sameStretch_1 (by decide) (by omega) (fun c_1 => ?_) (fun c_1 => ?_)
  · skip
    exact absurd c_1 (by omega)
  refine x_iloadn (pc := 4) dX11_sameStretch_4 rfl ?_
  refine x_ilt (tgt := 24) (pc := 5) dX11_sameStretch_5 (by decide) (by omega) (fun c_5 => ?_) (fun c_5 => ?_)
  · skip
    exact absurd c_5 (by omega)
  refine x_iloadn (pc := 8) dX11_sameStretch_8 rfl ?_
  refine x_iloadn (pc := 9) dX11_sameStretch_9 rfl ?_
  refine x_iadd (pc := 10) dX11_sameStretch_10 ?_
  refine x_aloadn (pc := 11) dX11_sameStretch_11 rfl ?_
  refine x_alen (pc := 12) dX11_sameStretch_12 hk (by decide) hr ?_
  refine x_cgt (tgt := 24) (pc := 13) dX11_sameStretch_13 (by decide) (by omega) (fun c_13 => ?_) (fun c_13 => ?_)
  · skip
    exact absurd c_13 (by omega)
  refine x_iloadn (pc := 16) dX11_sameStretch_16 rfl ?_
  refine x_iloadn (pc := 17) dX11_sameStretch_17 rfl ?_
  refine x_iadd (pc := 18) dX11_sameStretch_18 ?_
  refine x_aloadn (pc := 19) dX11_sameStretch_19 rfl ?_
  refine x_alen (pc := 20) dX11_sameStretch_20 hk (by decide) hr ?_
  refine x_cle (tgt := 26) (pc := 21) dX11_sameStretch_21 (by decide) (by omega) (fun c_21 => ?_) (fun c_21 => ?_)
  rotate_left
  · skip
    exact absurd c_21 (by omega)
  refine x_iconst (pc := 26) dX11_sameStretch_26 ?_
  refine x_istore (pc := 27) dX11_sameStretch_27 (by decide) rfl ?_
  exact l_ts_same hk hr hN hM ha hb hv n 0 (by omega) (fun j hj => absurd hj (Nat.not_lt_zero j))
/-! a side as it is read, by lengths put -/
def yof (I : Nat → Nat → Nat) (q : Nat) (p : Nat → Nat) : Nat → Nat
  | 0 => 0
  | k + 1 => yof I q p k + (if I q k < 4 then 1 else p (I q k - 4))
def yst (I : Nat → Nat → Nat) (q : Nat) (p : Nat → Nat) : Nat → Nat → Int
  | 0 => fun _ => -1
  | k + 1 => if 4 ≤ I q k ∧ yst I q p k (I q k - 4) = -1 then zup (yst I q p k) (I q k - 4) (yof I q p k : Int) else yst I q p k
theorem zst_bd {I : Nat → Nat → Nat} {q : Nat} {p : Nat → Nat} : ∀ k u, yst I q p k u = -1 ∨ (0 ≤ yst I q p k u ∧ yst I q p k u + p u ≤ yof I q p k)
  | 0, _ => Or.inl rfl
  | k + 1, u => by
    have ih := zst_bd (I := I) (q := q) (p := p) k u
    have ho : yof I q p (k + 1) = yof I q p k + (if I q k < 4 then 1 else p (I q k - 4)) := rfl
    rw [yst]
    by_cases c : 4 ≤ I q k ∧ yst I q p k (I q k - 4) = -1
    · rw [if_pos c]
      by_cases e : u = I q k - 4
      · rw [e, zup_s, ho, if_neg (by omega)]; right; omega
      · rw [zup_n e]
        rcases ih with ih | ih
        · exact Or.inl ih
        · right; omega
    · rw [if_neg c]
      rcases ih with ih | ih
      · exact Or.inl ih
      · right; omega
theorem zof_le {I : Nat → Nat → Nat} {q : Nat} {p : Nat → Nat} {k n : Nat} (h : k ≤ n) : yof I q p k ≤ yof I q p n := by
  induction n with
  | zero => have : k = 0 := by omega
            subst this; exact Nat.le_refl _
  | succ n ih =>
    by_cases c : k = n + 1
    · subst c; exact Nat.le_refl _
    · have := ih (by omega); rw [yof]; omega
def zMk (I : Nat → Nat → Nat) (q : Nat) (p R : Nat → Nat) (k : Nat) : Prop := if I q k < 4 then R (yof I q p k) = I q k else yst I q p k (I q k - 4) = -1 ∨ ∀ j, j < p (I q k - 4) → R (yof I q p k + j) = R ((yst I q p k (I q k - 4)).toNat + j)
def zMa (I : Nat → Nat → Nat) (q : Nat) (p R : Nat → Nat) (n : Nat) : Prop := ∀ k, k < n → zMk I q p R k
def zVd (n : Nat) (I : Nat → Nat → Nat) (q m : Nat) (p : Nat → Nat) : Prop := (∀ u, u < 4 → (zct I q u n = 0 → p u = 0) ∧ (0 < zct I q u n → 1 ≤ p u)) ∧ yof I q p n = m
theorem zVd.one {n : Nat} {I : Nat → Nat → Nat} {q m : Nat} {p : Nat → Nat} (h : zVd n I q m p) (hz : ∀ j, j < n → zV (I q j)) {k : Nat} (hk : k < n) : yof I q p k < m := by
  have h1 := zof_le (I := I) (q := q) (p := p) (show k + 1 ≤ n from hk)
  have h2 : yof I q p (k + 1) = yof I q p k + (if I q k < 4 then 1 else p (I q k - 4)) := rfl
  have h3 := hz k hk
  by_cases c : I q k < 4
  · rw [if_pos c] at h2; have := h.2; omega
  · rw [if_neg c] at h2
    have h5 : 1 ≤ p (I q k - 4) := by
      refine (h.1 (I q k - 4) (by have := h3.1; omega)).2 ((zct_pos n).mpr ⟨k, hk, by have := h3.2; omega⟩)
    have := h.2; omega
theorem zof_cg {I : Nat → Nat → Nat} {q : Nat} {p p' : Nat → Nat} {n : Nat} (hz : ∀ j, j < n → zV (I q j)) (h : ∀ u, u < 4 → p u = p' u) : ∀ k, k ≤ n → yof I q p k = yof I q p' k
  | 0, _ => rfl
  | k + 1, hk => by
    rw [yof, yof, zof_cg hz h k (by omega)]
    by_cases c : I q k < 4
    · rw [if_pos c, if_pos c]
    · rw [if_neg c, if_neg c, h _ (by have := (hz k (by omega)).1; omega)]
/-! a row read -/
theorem l_Sd_reads {r n m t N : Nat} {I : Nat → Nat → Nat} {q : Nat} {p R : Nat → Nat} {L : List Nat} {G0 : Nat → Nat → Int} (h : xSd r) (hL : x_SL L) (hS : cSd r n I q G0) (hp : ∀ u, u < 4 → G0 (r + 3) u = p u) (hV : zVd n I q m p) (ht : xK t = (13, N)) (htL : t ∈ L) (hmN : m ≤ N) (hN : N ≤ 30) (hR : ∀ j, j < m → G0 t j = R j ∧ R j < 8) (htr : t ≠ r + 4) :
    ∀ (k i : Nat) (G : Nat → Nat → Int) (o5 : Option (Nat × Int)), i + k = n → (∀ j, j < i → zMk I q p R j) → (∀ u, u < 4 → G (r + 4) u = yst I q p i u) → FR [r + 4] G0 G → x_Fin xFL G →
    X mX8_reads 1 0 0 (qI L fun x G' => ((x = 1 ∧ zMa I q p R n) ∨ (x = 0 ∧ ¬ zMa I q p R n)) ∧ FR [r + 4] G0 G' ∧ x_Fin xFL G') 13 [some (vR r), some (vR t), some (vI m), some (vI (yof I q p i)), some (vI i), o5] [] L G 0 0 := by
  obtain ⟨s1, s2, s3, s4, s5⟩ := id hS
  intro k
  induction k with
  | zero =>
    intro i G o5 hi hM hst hQ hF
    have hi : i = n := by omega
    subst hi
    have e0 : G r 4 = i := by rw [hQ r (by simp)]; exact s1
    have hm := hV.2
    refine x_iload (pc := 13) dX8_reads_13 rfl ?_
    refine x_aloadn (pc := 15) dX8_reads_15 rfl ?_
    refine x_getI (pc := 16) dX8_reads_16 fl_X8_24 (sd_k h).1 (sd_m h hL 0 (by decide)) ?_
    refine x_cge (tgt := 143) (pc := 19) dX8_reads_19 (by decide) (by omega) (fun c_19 => ?_) (fun c_19 => ?_)
    rotate_left
    · skip
      exact absurd c_19 (by omega)
    refine x_iloadn (pc := 143) dX8_reads_143 rfl ?_
    refine x_iloadn (pc := 144) dX8_reads_144 rfl ?_
    refine x_cne (tgt := 152) (pc := 145) dX8_reads_145 (by decide) (by omega) (fun c_145 => ?_) (fun c_145 => ?_)
    · skip
      exact absurd hm (by omega)
    refine x_iconst (pc := 148) dX8_reads_148 ?_
    refine x_goto (tgt := 153) (pc := 149) dX8_reads_149 (by decide) ?_
    refine x_rZ (pc := 153) dX8_reads_153 rfl (by omega) ?_
    exact ⟨Or.inl ⟨rfl, hM⟩, hQ, hF⟩
  | succ k ih =>
    intro i G o5 hi hM hst hQ hF
    have e0 : G r 4 = n := by rw [hQ r (by simp)]; exact s1
    obtain ⟨e1, hv1, hv2⟩ := s3 i (by omega)
    have e1 : G (r + 1) i = I q i := by rw [hQ (r + 1) (by simp)]; exact e1
    have hR : ∀ j, j < m → G t j = R j ∧ R j < 8 := fun j hj => by rw [hQ t (by simp; exact htr)]; exact hR j hj
    have hp' : ∀ u, u < 4 → G (r + 3) u = p u := fun u hu => by rw [hQ (r + 3) (by simp)]; exact hp u hu
    have hlt := hV.one (fun j hj => (s3 j hj).2) (show i < n by omega)
    have hof : yof I q p (i + 1) = yof I q p i + (if I q i < 4 then 1 else p (I q i - 4)) := rfl
    have hle := zof_le (I := I) (q := q) (p := p) (show i + 1 ≤ n by omega)
    rw [hV.2] at hle
    have hzs : yst I q p (i + 1) = if 4 ≤ I q i ∧ yst I q p i (I q i - 4) = -1 then zup (yst I q p i) (I q i - 4) (yof I q p i : Int) else yst I q p i := rfl
    by_cases c4 : I q i < 4
    · obtain ⟨r1, r2⟩ := hR (yof I q p i) (by omega)
      rw [if_pos c4] at hof
      rw [if_neg (by omega)] at hzs
      have hk : zMk I q p R i ↔ R (yof I q p i) = I q i := by unfold zMk; rw [if_pos c4]
      refine x_iload (pc := 13) dX8_reads_13 rfl ?_
      refine x_aloadn (pc := 15) dX8_reads_15 rfl ?_
      refine x_getI (pc := 16) dX8_reads_16 fl_X8_24 (sd_k h).1 (sd_m h hL 0 (by decide)) ?_
      refine x_cge (tgt := 143) (pc := 19) dX8_reads_19 (by decide) (by omega) (fun c_19 => ?_) (fun c_19 => ?_)
      · skip
        exact absurd c_19 (by omega)
      refine x_iloadn (pc := 22) dX8_reads_22 rfl ?_
      refine x_iloadn (pc := 23) dX8_reads_23 rfl ?_
      refine x_cge (tgt := 33) (pc := 24) dX8_reads_24 (by decide) (by omega) (fun c_24 => ?_) (fun c_24 => ?_)
      · skip
        exact absurd c_24 (by omega)
      refine x_iloadn (pc := 27) dX8_reads_27 rfl ?_
      refine x_aloadn (pc := 28) dX8_reads_28 rfl ?_
      refine x_alen (pc := 29) dX8_reads_29 ht (by decide) htL ?_
      refine x_clt (tgt := 35) (pc := 30) dX8_reads_30 (by decide) (by omega) (fun c_30 => ?_) (fun c_30 => ?_)
      rotate_left
      · skip
        exact absurd c_30 (by omega)
      refine x_aloadn (pc := 35) dX8_reads_35 rfl ?_
      refine x_getR (r + 1) (pc := 36) dX8_reads_36 fl_X8_9 (sd_k h).1 (sd_m h hL 0 (by decide)) (sd_f0 h hF) ?_
      refine x_iload (pc := 39) dX8_reads_39 rfl ?_
      refine x_iald (i) (pc := 41) dX8_reads_41 (sd_k h).2.1 (sd_m h hL 1 (by decide)) (⟨by omega, by omega, by decide⟩) ?_
      refine x_cSNI (pc := 42) dX8_reads_42 lk_X8_37 (c_ts_isU (by omega)) (⟨by decide, by decide⟩) (Nat.le_of_ble_eq_true rfl) rfl ?_
      rintro x G' ⟨rfl, rfl⟩
      refine x_ieq (tgt := 119) (pc := 45) dX8_reads_45 (by decide) (by split <;> omega) (fun c_45 => ?_) (fun c_45 => ?_)
      rotate_left
      · skip
        exact absurd (if_neg (by omega)) c_45
      refine x_aloadn (pc := 119) dX8_reads_119 rfl ?_
      refine x_iloadn (pc := 120) dX8_reads_120 rfl ?_
      refine x_iald (yof I q p i) (pc := 121) dX8_reads_121 ht htL (⟨by omega, by omega, by omega⟩) ?_
      refine x_aloadn (pc := 122) dX8_reads_122 rfl ?_
      refine x_getR (r + 1) (pc := 123) dX8_reads_123 fl_X8_9 (sd_k h).1 (sd_m h hL 0 (by decide)) (sd_f0 h hF) ?_
      refine x_iload (pc := 126) dX8_reads_126 rfl ?_
      refine x_iald (i) (pc := 128) dX8_reads_128 (sd_k h).2.1 (sd_m h hL 1 (by decide)) (⟨by omega, by omega, by decide⟩) ?_
      refine x_ceq (tgt := 134) (pc := 129) dX8_reads_129 (by decide) (by omega) (fun c_129 => ?_) (fun c_129 => ?_)
      · skip
        refine x_iinc (pc := 134) dX8_reads_134 rfl (by decide) rfl ?_
        refine x_iinc (pc := 137) dX8_reads_137 rfl (by decide) rfl ?_
        refine x_goto (tgt := 13) (pc := 140) dX8_reads_140 (by decide) ?_
        rw [show ((yof I q p i : Nat) : Int) + 1 = ((yof I q p (i + 1) : Nat) : Int) by omega]
        refine ih (i + 1) _ _ (by omega) (fun j hj => ?_) (by rw [hzs]; exact hst) hQ hF
        by_cases e : j = i
        · subst e; exact hk.mpr (by omega)
        · exact hM j (by omega)
      · skip
        refine x_iconst (pc := 132) dX8_reads_132 ?_
        refine x_rZ (pc := 133) dX8_reads_133 rfl (by omega) ?_
        exact ⟨Or.inr ⟨rfl, fun w => c_129 (by have := hk.mp (w i (by omega)); omega)⟩, hQ, hF⟩
    · obtain ⟨u, hu, hiu⟩ : ∃ u, u < 4 ∧ I q i = 4 + u := ⟨I q i - 4, by omega, by omega⟩
      have hiu4 : I q i - 4 = u := by omega
      rw [if_neg c4, hiu4] at hof
      rw [hiu4] at hzs
      have hsu := hst u hu
      have hpu := hp' u hu
      have hsb := zst_bd (I := I) (q := q) (p := p) i u
      have hk : zMk I q p R i ↔ (yst I q p i u = -1 ∨ ∀ j, j < p u → R (yof I q p i + j) = R ((yst I q p i u).toNat + j)) := by unfold zMk; rw [if_neg c4, hiu4]
      by_cases cs : yst I q p i u = -1
      · rw [if_pos ⟨by omega, cs⟩] at hzs
        refine x_iload (pc := 13) dX8_reads_13 rfl ?_
        refine x_aloadn (pc := 15) dX8_reads_15 rfl ?_
        refine x_getI (pc := 16) dX8_reads_16 fl_X8_24 (sd_k h).1 (sd_m h hL 0 (by decide)) ?_
        refine x_cge (tgt := 143) (pc := 19) dX8_reads_19 (by decide) (by omega) (fun c_19 => ?_) (fun c_19 => ?_)
        · skip
          exact absurd c_19 (by omega)
        refine x_iloadn (pc := 22) dX8_reads_22 rfl ?_
        refine x_iloadn (pc := 23) dX8_reads_23 rfl ?_
        refine x_cge (tgt := 33) (pc := 24) dX8_reads_24 (by decide) (by omega) (fun c_24 => ?_) (fun c_24 => ?_)
        · skip
          exact absurd c_24 (by omega)
        refine x_iloadn (pc := 27) dX8_reads_27 rfl ?_
        refine x_aloadn (pc := 28) dX8_reads_28 rfl ?_
        refine x_alen (pc := 29) dX8_reads_29 ht (by decide) htL ?_
        refine x_clt (tgt := 35) (pc := 30) dX8_reads_30 (by decide) (by omega) (fun c_30 => ?_) (fun c_30 => ?_)
        rotate_left
        · skip
          exact absurd c_30 (by omega)
        refine x_aloadn (pc := 35) dX8_reads_35 rfl ?_
        refine x_getR (r + 1) (pc := 36) dX8_reads_36 fl_X8_9 (sd_k h).1 (sd_m h hL 0 (by decide)) (sd_f0 h hF) ?_
        refine x_iload (pc := 39) dX8_reads_39 rfl ?_
        refine x_iald (i) (pc := 41) dX8_reads_41 (sd_k h).2.1 (sd_m h hL 1 (by decide)) (⟨by omega, by omega, by decide⟩) ?_
        refine x_cSNI (pc := 42) dX8_reads_42 lk_X8_37 (c_ts_isU (by omega)) (⟨by decide, by decide⟩) (Nat.le_of_ble_eq_true rfl) rfl ?_
        rintro x G' ⟨rfl, rfl⟩
        refine x_ieq (tgt := 119) (pc := 45) dX8_reads_45 (by decide) (by split <;> omega) (fun c_45 => ?_) (fun c_45 => ?_)
        · skip
          exact absurd c_45 (by rw [if_pos (by omega)]; decide)
        refine x_aloadn (pc := 48) dX8_reads_48 rfl ?_
        refine x_getR (r + 1) (pc := 49) dX8_reads_49 fl_X8_9 (sd_k h).1 (sd_m h hL 0 (by decide)) (sd_f0 h hF) ?_
        refine x_iload (pc := 52) dX8_reads_52 rfl ?_
        refine x_iald (i) (pc := 54) dX8_reads_54 (sd_k h).2.1 (sd_m h hL 1 (by decide)) (⟨by omega, by omega, by decide⟩) ?_
        refine x_cSNI (pc := 55) dX8_reads_55 lk_X8_41 (c_ts_uOf) (⟨by decide, by decide⟩) (Nat.le_of_ble_eq_true rfl) rfl ?_
        rintro x G' ⟨rfl, rfl⟩
        refine x_istore (pc := 58) dX8_reads_58 (by decide) rfl ?_
        refine x_aloadn (pc := 60) dX8_reads_60 rfl ?_
        refine x_getR (r + 4) (pc := 61) dX8_reads_61 fl_X8_21 (sd_k h).1 (sd_m h hL 0 (by decide)) (sd_f3 h hF) ?_
        refine x_iload (pc := 64) dX8_reads_64 rfl ?_
        refine x_iald (u) (pc := 66) dX8_reads_66 (sd_k h).2.2.2.2 (sd_m h hL 4 (by decide)) (⟨by omega, by omega, by decide⟩) ?_
        refine x_iconst (pc := 67) dX8_reads_67 ?_
        refine x_cne (tgt := 82) (pc := 68) dX8_reads_68 (by decide) (by omega) (fun c_68 => ?_) (fun c_68 => ?_)
        · skip
          exact absurd (hsu.trans cs) c_68
        refine x_aloadn (pc := 71) dX8_reads_71 rfl ?_
        refine x_getR (r + 4) (pc := 72) dX8_reads_72 fl_X8_21 (sd_k h).1 (sd_m h hL 0 (by decide)) (sd_f3 h hF) ?_
        refine x_iload (pc := 75) dX8_reads_75 rfl ?_
        refine x_iloadn (pc := 77) dX8_reads_77 rfl ?_
        refine x_iastF (u) (pc := 78) dX8_reads_78 (sd_k h).2.2.2.2 (sd_m h hL 4 (by decide)) (⟨by omega, by omega, by decide⟩) hF (fun hF => ?_)
        refine x_goto (tgt := 106) (pc := 79) dX8_reads_79 (by decide) ?_
        refine x_iloadn (pc := 106) dX8_reads_106 rfl ?_
        refine x_aloadn (pc := 107) dX8_reads_107 rfl ?_
        refine x_getR (r + 3) (pc := 108) dX8_reads_108 fl_X8_18 (sd_k h).1 (sd_m h hL 0 (by decide)) (sd_f2 h hF) ?_
        refine x_iload (pc := 111) dX8_reads_111 rfl ?_
        refine x_iald (u) (pc := 113) dX8_reads_113 (sd_k h).2.2.2.1 (sd_m h hL 3 (by decide)) (⟨by omega, by omega, by decide⟩) ?_
        rw [x_up_ne (by omega), hpu]
        refine x_iadd (pc := 114) dX8_reads_114 ?_
        refine x_istoren (pc := 115) dX8_reads_115 rfl (by decide) rfl ?_
        refine x_goto (tgt := 137) (pc := 116) dX8_reads_116 (by decide) ?_
        refine x_iinc (pc := 137) dX8_reads_137 rfl (by decide) rfl ?_
        refine x_goto (tgt := 13) (pc := 140) dX8_reads_140 (by decide) ?_
        rw [show ((yof I q p i : Nat) : Int) + ((p u : Nat) : Int) = ((yof I q p (i + 1) : Nat) : Int) by omega]
        refine ih (i + 1) _ _ (by omega) (fun j hj => ?_) (fun v hv => ?_) (hQ.up (by simp)) hF
        · by_cases e : j = i
          · subst e; exact hk.mpr (Or.inl cs)
          · exact hM j (by omega)
        · rw [hzs]
          by_cases e : v = u
          · subst e; rw [zup_s]; exact x_up_s
          · rw [zup_n e, x_up_k e]; exact hst v hv
      · rw [if_neg (fun w => cs w.2)] at hzs
        obtain ⟨s, hs⟩ : ∃ s : Nat, yst I q p i u = s := ⟨(yst I q p i u).toNat, by omega⟩
        have hts : (yst I q p i u).toNat = s := by omega
        rw [hts] at hk
        refine x_iload (pc := 13) dX8_reads_13 rfl ?_
        refine x_aloadn (pc := 15) dX8_reads_15 rfl ?_
        refine x_getI (pc := 16) dX8_reads_16 fl_X8_24 (sd_k h).1 (sd_m h hL 0 (by decide)) ?_
        refine x_cge (tgt := 143) (pc := 19) dX8_reads_19 (by decide) (by omega) (fun c_19 => ?_) (fun c_19 => ?_)
        · skip
          exact absurd c_19 (by omega)
        refine x_iloadn (pc := 22) dX8_reads_22 rfl ?_
        refine x_iloadn (pc := 23) dX8_reads_23 rfl ?_
        refine x_cge (tgt := 33) (pc := 24) dX8_reads_24 (by decide) (by omega) (fun c_24 => ?_) (fun c_24 => ?_)
        · skip
          exact absurd c_24 (by omega)
        refine x_iloadn (pc := 27) dX8_reads_27 rfl ?_
        refine x_aloadn (pc := 28) dX8_reads_28 rfl ?_
        refine x_alen (pc := 29) dX8_reads_29 ht (by decide) htL ?_
        refine x_clt (tgt := 35) (pc := 30) dX8_reads_30 (by decide) (by omega) (fun c_30 => ?_) (fun c_30 => ?_)
        rotate_left
        · skip
          exact absurd c_30 (by omega)
        refine x_aloadn (pc := 35) dX8_reads_35 rfl ?_
        refine x_getR (r + 1) (pc := 36) dX8_reads_36 fl_X8_9 (sd_k h).1 (sd_m h hL 0 (by decide)) (sd_f0 h hF) ?_
        refine x_iload (pc := 39) dX8_reads_39 rfl ?_
        refine x_iald (i) (pc := 41) dX8_reads_41 (sd_k h).2.1 (sd_m h hL 1 (by decide)) (⟨by omega, by omega, by decide⟩) ?_
        refine x_cSNI (pc := 42) dX8_reads_42 lk_X8_37 (c_ts_isU (by omega)) (⟨by decide, by decide⟩) (Nat.le_of_ble_eq_true rfl) rfl ?_
        rintro x G' ⟨rfl, rfl⟩
        refine x_ieq (tgt := 119) (pc := 45) dX8_reads_45 (by decide) (by split <;> omega) (fun c_45 => ?_) (fun c_45 => ?_)
        · skip
          exact absurd c_45 (by rw [if_pos (by omega)]; decide)
        refine x_aloadn (pc := 48) dX8_reads_48 rfl ?_
        refine x_getR (r + 1) (pc := 49) dX8_reads_49 fl_X8_9 (sd_k h).1 (sd_m h hL 0 (by decide)) (sd_f0 h hF) ?_
        refine x_iload (pc := 52) dX8_reads_52 rfl ?_
        refine x_iald (i) (pc := 54) dX8_reads_54 (sd_k h).2.1 (sd_m h hL 1 (by decide)) (⟨by omega, by omega, by decide⟩) ?_
        refine x_cSNI (pc := 55) dX8_reads_55 lk_X8_41 (c_ts_uOf) (⟨by decide, by decide⟩) (Nat.le_of_ble_eq_true rfl) rfl ?_
        rintro x G' ⟨rfl, rfl⟩
        refine x_istore (pc := 58) dX8_reads_58 (by decide) rfl ?_
        refine x_aloadn (pc := 60) dX8_reads_60 rfl ?_
        refine x_getR (r + 4) (pc := 61) dX8_reads_61 fl_X8_21 (sd_k h).1 (sd_m h hL 0 (by decide)) (sd_f3 h hF) ?_
        refine x_iload (pc := 64) dX8_reads_64 rfl ?_
        refine x_iald (u) (pc := 66) dX8_reads_66 (sd_k h).2.2.2.2 (sd_m h hL 4 (by decide)) (⟨by omega, by omega, by decide⟩) ?_
        refine x_iconst (pc := 67) dX8_reads_67 ?_
        refine x_cne (tgt := 82) (pc := 68) dX8_reads_68 (by decide) (by omega) (fun c_68 => ?_) (fun c_68 => ?_)
        rotate_left
        · skip
          exact absurd (hsu.symm.trans c_68) cs
        refine x_aloadn (pc := 82) dX8_reads_82 rfl ?_
        refine x_aloadn (pc := 83) dX8_reads_83 rfl ?_
        refine x_getR (r + 4) (pc := 84) dX8_reads_84 fl_X8_21 (sd_k h).1 (sd_m h hL 0 (by decide)) (sd_f3 h hF) ?_
        refine x_iload (pc := 87) dX8_reads_87 rfl ?_
        refine x_iald (u) (pc := 89) dX8_reads_89 (sd_k h).2.2.2.2 (sd_m h hL 4 (by decide)) (⟨by omega, by omega, by decide⟩) ?_
        rw [hsu, hs]
        refine x_iloadn (pc := 90) dX8_reads_90 rfl ?_
        refine x_aloadn (pc := 91) dX8_reads_91 rfl ?_
        refine x_getR (r + 3) (pc := 92) dX8_reads_92 fl_X8_18 (sd_k h).1 (sd_m h hL 0 (by decide)) (sd_f2 h hF) ?_
        refine x_iload (pc := 95) dX8_reads_95 rfl ?_
        refine x_iald (u) (pc := 97) dX8_reads_97 (sd_k h).2.2.2.1 (sd_m h hL 3 (by decide)) (⟨by omega, by omega, by decide⟩) ?_
        rw [hpu]
        refine x_cSNI (pc := 98) dX8_reads_98 lk_X8_67 (c_ts_same (M := m) ht htL (by omega) hmN (by omega) (by omega) (fun j hj => by have := hR j hj; omega)) (⟨by decide, by decide⟩) (Nat.le_of_ble_eq_true rfl) rfl ?_
        rintro x G' ⟨hx, hG⟩
        subst hG
        have hall : (∀ j, j < p u → G' t (s + j) = G' t (yof I q p i + j)) ↔ (∀ j, j < p u → R (yof I q p i + j) = R (s + j)) := by
          constructor
          · intro w j hj; have a1 := w j hj; have a2 := hR (s + j) (by omega); have a3 := hR (yof I q p i + j) (by omega); omega
          · intro w j hj; have a1 := w j hj; have a2 := hR (s + j) (by omega); have a3 := hR (yof I q p i + j) (by omega); omega
        rw [hall] at hx
        refine x_ine (tgt := 106) (pc := 101) dX8_reads_101 (by decide) (by omega) (fun c_101 => ?_) (fun c_101 => ?_)
        · skip
          refine x_iloadn (pc := 106) dX8_reads_106 rfl ?_
          refine x_aloadn (pc := 107) dX8_reads_107 rfl ?_
          refine x_getR (r + 3) (pc := 108) dX8_reads_108 fl_X8_18 (sd_k h).1 (sd_m h hL 0 (by decide)) (sd_f2 h hF) ?_
          refine x_iload (pc := 111) dX8_reads_111 rfl ?_
          refine x_iald (u) (pc := 113) dX8_reads_113 (sd_k h).2.2.2.1 (sd_m h hL 3 (by decide)) (⟨by omega, by omega, by decide⟩) ?_
          rw [hpu]
          refine x_iadd (pc := 114) dX8_reads_114 ?_
          refine x_istoren (pc := 115) dX8_reads_115 rfl (by decide) rfl ?_
          refine x_goto (tgt := 137) (pc := 116) dX8_reads_116 (by decide) ?_
          refine x_iinc (pc := 137) dX8_reads_137 rfl (by decide) rfl ?_
          refine x_goto (tgt := 13) (pc := 140) dX8_reads_140 (by decide) ?_
          rw [show ((yof I q p i : Nat) : Int) + ((p u : Nat) : Int) = ((yof I q p (i + 1) : Nat) : Int) by omega]
          refine ih (i + 1) _ _ (by omega) (fun j hj => ?_) (by rw [hzs]; exact hst) hQ hF
          by_cases e : j = i
          · subst e; exact hk.mpr (Or.inr (by rcases hx with hx | hx; exact hx.2; omega))
          · exact hM j (by omega)
        · skip
          refine x_iconst (pc := 104) dX8_reads_104 ?_
          refine x_rZ (pc := 105) dX8_reads_105 rfl (by omega) ?_
          exact ⟨Or.inr ⟨rfl, fun w => by rcases hk.mp (w i (by omega)) with w | w; exact cs w; rcases hx with hx | hx; omega; exact hx.2 w⟩, hQ, hF⟩
theorem c_Sd_reads {r n m t N : Nat} {I : Nat → Nat → Nat} {q : Nat} {p R : Nat → Nat} {L : List Nat} {G : Nat → Nat → Int} (h : xSd r) (hL : x_SL L) (hF : x_Fin xFL G) (hS : cSd r n I q G) (hp : ∀ u, u < 4 → G (r + 3) u = p u) (hV : zVd n I q m p) (ht : xK t = (13, N)) (htL : t ∈ L) (hmN : m ≤ N) (hN : N ≤ 30) (hR : ∀ j, j < m → G t j = R j ∧ R j < 8) (htr : t ≠ r + 4) :
    CM yX8_reads mX8_reads 1 0 0 [vR r, vR t, vI m] L G (qI L fun x G' => ((x = 1 ∧ zMa I q p R n) ∨ (x = 0 ∧ ¬ zMa I q p R n)) ∧ FR [r + 4] G G' ∧ x_Fin xFL G') := by
  refine Ct.of_X (μ := mX8_reads) rfl rfl (by decide) (fun h => by cases h) (Nat.le_of_ble_eq_true rfl) rfl ?_
  refine x_aloadn (pc := 0) dX8_reads_0 rfl ?_
  refine x_getR (r + 4) (pc := 1) dX8_reads_1 fl_X8_21 (sd_k h).1 (sd_m h hL 0 (by decide)) (sd_f3 h hF) ?_
  refine x_iconst (pc := 4) dX8_reads_4 ?_
  refine x_cSV (pc := 5) dX8_reads_5 lk_X8_31 (c_fillI (sd_k h).2.2.2.2 (sd_m h hL 4 (by decide)) (by decide) hF) (⟨by decide, by decide⟩) (Nat.le_of_ble_eq_true rfl) rfl ?_
  rintro G1 ⟨a1, a2, hF⟩
  refine x_iconst (pc := 8) dX8_reads_8 ?_
  refine x_istoren (pc := 9) dX8_reads_9 rfl (by decide) rfl ?_
  refine x_iconst (pc := 10) dX8_reads_10 ?_
  refine x_istore (pc := 11) dX8_reads_11 (by decide) rfl ?_
  refine X.imp (fun v L' G' => ?_) (l_Sd_reads (G0 := G1) h hL (hS.FR a2 (by simp) (by simp) (by simp)) (fun u hu => by rw [a2 (r + 3) (by simp)]; exact hp u hu) hV ht htL hmN hN (fun j hj => by rw [a2 t (by simp; exact htr)]; exact hR j hj) htr n 0 G1 _ (by omega) (fun j hj => absurd hj (Nat.not_lt_zero j)) (fun u hu => a1 u hu) FR.rf hF)
  rintro ⟨rfl, x, rfl, b1, b2, b3⟩
  exact ⟨rfl, x, rfl, b1, a2.tr b2, b3⟩

