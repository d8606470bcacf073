/-! WORDS: what is asked of them, and the class's words -/
def zall (g : Nat → Bool) : Nat → Bool
  | 0 => true
  | k + 1 => zall g k && g k
theorem zall_iff {g : Nat → Bool} : ∀ k, zall g k = true ↔ ∀ i, i < k → g i = true
  | 0 => by simp [zall]
  | k + 1 => by
    rw [zall, Bool.and_eq_true, zall_iff k]
    constructor
    · rintro ⟨h1, h2⟩ i hi
      by_cases c : i = k
      · rw [c]; exact h2
      · exact h1 i (by omega)
    · exact fun h => ⟨fun i hi => h i (by omega), h k (by omega)⟩
def zfnd (g : Nat → Bool) : Nat → Nat → Nat
  | 0, p => p
  | k + 1, p => if g p = true then p else zfnd g k (p + 1)
def zcn (g : Nat → Bool) : Nat → Nat
  | 0 => 0
  | k + 1 => zcn g k + (if g (k + 1) = true then 1 else 0)
theorem zcn_le {g : Nat → Bool} : ∀ k, zcn g k ≤ k
  | 0 => Nat.le_refl _
  | k + 1 => by have := zcn_le (g := g) k; rw [zcn]; split <;> omega
def zper (f : Nat → Nat) (n p : Nat) : Bool := zall (fun i => f i == f (i + p)) (n - p)
theorem zper_iff {f : Nat → Nat} {n p : Nat} : zper f n p = true ↔ ∀ i, i + p < n → f i = f (i + p) := by
  unfold zper
  rw [zall_iff]
  constructor
  · intro h i hi; have := h i (by omega); simpa using this
  · intro h i hi; have := h i (by omega); simpa using this
theorem zper_n (f : Nat → Nat) (n : Nat) : zper f n n = true := zper_iff.mpr fun i hi => absurd hi (by omega)
def zLP (f : Nat → Nat) (n : Nat) : Nat := if n = 0 then 0 else zfnd (zper f n) n 1
def zroot (f : Nat → Nat) (n p : Nat) : Bool := decide (n % p = 0) && zper f n p
theorem zroot_n (f : Nat → Nat) (n : Nat) : zroot f n n = true := by unfold zroot; rw [zper_n, Nat.mod_self]; rfl
def zRT (f : Nat → Nat) (n : Nat) : Nat := if n = 0 then 0 else zfnd (zroot f n) n 1
def ztl (f : Nat → Nat) (n k i : Nat) : Nat := f ((k + i) % n)
def zta (f : Nat → Nat) (n a b : Nat) : Nat → Nat → Bool
  | 0, _ => false
  | k + 1, j => if ztl f n a j = ztl f n b j then zta f n a b k (j + 1) else decide (ztl f n a j < ztl f n b j)
def zltb (f : Nat → Nat) (n : Nat) : Nat → Nat
  | 0 => 0
  | k + 1 => if zta f n (k + 1) (zltb f n k) n 0 = true then k + 1 else zltb f n k
theorem zltb_le (f : Nat → Nat) (n : Nat) : ∀ k, zltb f n k ≤ k
  | 0 => Nat.le_refl _
  | k + 1 => by have := zltb_le f n k; rw [zltb]; split <;> omega
def xWd (r : Nat) : Prop := ∃ k, k < 4 ∧ r = 99 + 7 * k
theorem wd_k {r : Nat} (h : xWd r) : xK r = (10, 0) ∧ xK (r + 1) = (13, 30) := by
  obtain ⟨k, h1, rfl⟩ := h
  have e : ∀ k, k < 4 → xK (99 + 7 * k) = (10, 0) ∧ xK (99 + 7 * k + 1) = (13, 30) := by decide +kernel
  exact e k h1
theorem wd_m {r : Nat} {L : List Nat} (h : xWd r) (hL : x_SL L) (i : Nat) (hi : i ≤ 1) : r + i ∈ L := by obtain ⟨k, h1, rfl⟩ := h; exact hL _ (by omega) (by omega)
theorem wd_f0 {r : Nat} {G : Nat → Nat → Int} (h : xWd r) (hF : x_Fin xFL G) : G r 0 = ((r + 1 : Nat) : Int) := by
  obtain ⟨k, h1, rfl⟩ := h
  have e : ∀ k, k < 4 → ((99 + 7 * k, 0, 99 + 7 * k + 1) : Nat × Nat × Nat) ∈ xFL := by decide +kernel
  exact hF _ (e k h1)
def cWd (r n : Nat) (f : Nat → Nat) (G : Nat → Nat → Int) : Prop := G r 1 = n ∧ n ≤ 30 ∧ ∀ j, j < n → G (r + 1) j = f j ∧ f j < 3
theorem c_Wd_length {r n : Nat} {f : Nat → Nat} {L : List Nat} {G : Nat → Nat → Int} (h : xWd r) (hL : x_SL L) (hW : cWd r n f G) :
    CM yX10_length mX10_length 0 0 0 [vR r] L G (qI L fun x G' => x = n ∧ G' = G) := by
  refine Ct.of_X (μ := mX10_length) rfl rfl (by decide) (fun h => by cases h) (Nat.le_of_ble_eq_true rfl) rfl ?_
  refine x_aloadn (pc := 0) dX10_length_0 rfl ?_
  refine x_getI (pc := 1) dX10_length_1 fl_X10_15 (wd_k h).1 (wd_m h hL 0 (by decide)) ?_
  refine x_rI (pc := 4) dX10_length_4 rfl ?_
  exact ⟨hW.1, rfl⟩
theorem l_Wd_per {r n p : Nat} {f : Nat → Nat} {L : List Nat} {G : Nat → Nat → Int} (h : xWd r) (hL : x_SL L) (hF : x_Fin xFL G) (hW : cWd r n f G) (hp : p ≤ 31) :
    ∀ (k i : Nat), i + k = n - p → (∀ j, j < i → f j = f (j + p)) → X mX10_hasPeriod 0 0 0 (qI L fun x G' => x = (if zper f n p = true then 1 else 0) ∧ G' = G) 2 [some (vR r), some (vI p), some (vI i)] [] L G 0 0 := by
  obtain ⟨w1, w2, w3⟩ := hW
  intro k
  induction k with
  | zero =>
    intro i hi hg
    refine x_iloadn (pc := 2) dX10_hasPeriod_2 rfl ?_
    refine x_iloadn (pc := 3) dX10_hasPeriod_3 rfl ?_
    refine x_iadd (pc := 4) dX10_hasPeriod_4 ?_
    refine x_aloadn (pc := 5) dX10_hasPeriod_5 rfl ?_
    refine x_getI (pc := 6) dX10_hasPeriod_6 fl_X10_15 (wd_k h).1 (wd_m h hL 0 (by decide)) ?_
    refine x_cge (tgt := 37) (pc := 9) dX10_hasPeriod_9 (by decide) (by omega) (fun c_9 => ?_) (fun c_9 => ?_)
    rotate_left
    · skip
      exact absurd c_9 (by omega)
    refine x_iconst (pc := 37) dX10_hasPeriod_37 ?_
    refine x_rZ (pc := 38) dX10_hasPeriod_38 rfl (by omega) ?_
    exact ⟨by rw [if_pos (zper_iff.mpr fun j hj => hg j (by omega))], rfl⟩
  | succ k ih =>
    intro i hi hg
    have a1 := w3 i (by omega)
    have a2 := w3 (i + p) (by omega)
    refine x_iloadn (pc := 2) dX10_hasPeriod_2 rfl ?_
    refine x_iloadn (pc := 3) dX10_hasPeriod_3 rfl ?_
    refine x_iadd (pc := 4) dX10_hasPeriod_4 ?_
    refine x_aloadn (pc := 5) dX10_hasPeriod_5 rfl ?_
    refine x_getI (pc := 6) dX10_hasPeriod_6 fl_X10_15 (wd_k h).1 (wd_m h hL 0 (by decide)) ?_
    refine x_cge (tgt := 37) (pc := 9) dX10_hasPeriod_9 (by decide) (by omega) (fun c_9 => ?_) (fun c_9 => ?_)
    · skip
      exact absurd c_9 (by omega)
    refine x_aloadn (pc := 12) dX10_hasPeriod_12 rfl ?_
    refine x_getR (r + 1) (pc := 13) dX10_hasPeriod_13 fl_X10_11 (wd_k h).1 (wd_m h hL 0 (by decide)) (wd_f0 h hF) ?_
    refine x_iloadn (pc := 16) dX10_hasPeriod_16 rfl ?_
    refine x_iald (i) (pc := 17) dX10_hasPeriod_17 (wd_k h).2 (wd_m h hL 1 (by decide)) (⟨by omega, by omega, by decide⟩) ?_
    refine x_aloadn (pc := 18) dX10_hasPeriod_18 rfl ?_
    refine x_getR (r + 1) (pc := 19) dX10_hasPeriod_19 fl_X10_11 (wd_k h).1 (wd_m h hL 0 (by decide)) (wd_f0 h hF) ?_
    refine x_iloadn (pc := 22) dX10_hasPeriod_22 rfl ?_
    refine x_iloadn (pc := 23) dX10_hasPeriod_23 rfl ?_
    refine x_iadd (pc := 24) dX10_hasPeriod_24 ?_
    refine x_iald (i + p) (pc := 25) dX10_hasPeriod_25 (wd_k h).2 (wd_m h hL 1 (by decide)) (⟨by omega, by omega, by decide⟩) ?_
    rw [a1.1, a2.1]
    refine x_ceq (tgt := 31) (pc := 26) dX10_hasPeriod_26 (by decide) (by omega) (fun c_26 => ?_) (fun c_26 => ?_)
    · skip
      refine x_iinc (pc := 31) dX10_hasPeriod_31 rfl (by decide) rfl ?_
      refine x_goto (tgt := 2) (pc := 34) dX10_hasPeriod_34 (by decide) ?_
      refine ih (i + 1) (by omega) (fun j hj => ?_)
      by_cases c : j = i
      · subst c; omega
      · exact hg j (by omega)
    · skip
      refine x_iconst (pc := 29) dX10_hasPeriod_29 ?_
      refine x_rZ (pc := 30) dX10_hasPeriod_30 rfl (by omega) ?_
      exact ⟨by rw [if_neg (fun q => by have := zper_iff.mp q i (by omega); omega)], rfl⟩
theorem c_Wd_per {r n p : Nat} {f : Nat → Nat} {L : List Nat} {G : Nat → Nat → Int} (h : xWd r) (hL : x_SL L) (hF : x_Fin xFL G) (hW : cWd r n f G) (hp : p ≤ 31) :
    CM yX10_hasPeriod mX10_hasPeriod 0 0 0 [vR r, vI p] L G (qI L fun x G' => x = (if zper f n p = true then 1 else 0) ∧ G' = G) := by
  refine Ct.of_X (μ := mX10_hasPeriod) rfl rfl (by decide) (fun h => by cases h) (Nat.le_of_ble_eq_true rfl) rfl ?_
  refine x_iconst (pc := 0) dX10_hasPeriod_0 ?_
  refine x_istoren (pc := 1) dX10_hasPeriod_1 rfl (by decide) rfl ?_
  exact l_Wd_per h hL hF hW hp (n - p) 0 (by omega) (fun j hj => absurd hj (Nat.not_lt_zero j))
theorem l_Wd_lp {r n : Nat} {f : Nat → Nat} {L : List Nat} {G : Nat → Nat → Int} (h : xWd r) (hL : x_SL L) (hF : x_Fin xFL G) (hW : cWd r n f G) (hn : 1 ≤ n) :
    ∀ (k p : Nat), p + k = n + 1 → p ≤ n → zfnd (zper f n) k p = zLP f n → X mX10_leastPeriod 1 0 0 (qI L fun x G' => x = zLP f n ∧ G' = G) 2 [some (vR r), some (vI p)] [] L G 0 0 := by
  obtain ⟨w1, w2, w3⟩ := id hW
  intro k
  induction k with
  | zero => intro p hp hp2 _; omega
  | succ k ih =>
    intro p hp hp2 hz
    rw [zfnd] at hz
    refine x_iloadn (pc := 2) dX10_leastPeriod_2 rfl ?_
    refine x_aloadn (pc := 3) dX10_leastPeriod_3 rfl ?_
    refine x_getI (pc := 4) dX10_leastPeriod_4 fl_X10_15 (wd_k h).1 (wd_m h hL 0 (by decide)) ?_
    refine x_cgt (tgt := 26) (pc := 7) dX10_leastPeriod_7 (by decide) (by omega) (fun c_7 => ?_) (fun c_7 => ?_)
    · skip
      exact absurd c_7 (by omega)
    refine x_aloadn (pc := 10) dX10_leastPeriod_10 rfl ?_
    refine x_iloadn (pc := 11) dX10_leastPeriod_11 rfl ?_
    refine x_cVI (pc := 12) dX10_leastPeriod_12 lk_X10_32 (c_Wd_per h hL hF hW (by omega)) (wd_k h).1 ⟨by decide, rfl⟩ (wd_m h hL 0 (by decide)) (⟨by decide, by decide⟩) (Nat.le_of_ble_eq_true rfl) rfl ?_
    rintro x G' ⟨rfl, rfl⟩
    refine x_ieq (tgt := 20) (pc := 15) dX10_leastPeriod_15 (by decide) (by split <;> omega) (fun c_15 => ?_) (fun c_15 => ?_)
    · skip
      refine x_iinc (pc := 20) dX10_leastPeriod_20 rfl (by decide) rfl ?_
      refine x_goto (tgt := 2) (pc := 23) dX10_leastPeriod_23 (by decide) ?_
      split at c_15
      · exact absurd c_15 (by decide)
      · rename_i q
        rw [if_neg q] at hz
        have hpn : p ≠ n := fun e => q (by rw [e]; exact zper_n f n)
        exact ih (p + 1) (by omega) (by omega) hz
    · skip
      refine x_iloadn (pc := 18) dX10_leastPeriod_18 rfl ?_
      refine x_rI (pc := 19) dX10_leastPeriod_19 rfl ?_
      exact ⟨by split at c_15; rename_i q; rw [if_pos q] at hz; omega; exact absurd rfl c_15, rfl⟩
theorem c_Wd_lp {r n : Nat} {f : Nat → Nat} {L : List Nat} {G : Nat → Nat → Int} (h : xWd r) (hL : x_SL L) (hF : x_Fin xFL G) (hW : cWd r n f G) :
    CM yX10_leastPeriod mX10_leastPeriod 1 0 0 [vR r] L G (qI L fun x G' => x = zLP f n ∧ G' = G) := by
  have w1 := hW.1
  refine Ct.of_X (μ := mX10_leastPeriod) rfl rfl (by decide) (fun h => by cases h) (Nat.le_of_ble_eq_true rfl) rfl ?_
  by_cases hn : n = 0
  · skip
    refine x_iconst (pc := 0) dX10_leastPeriod_0 ?_
    refine x_istoren (pc := 1) dX10_leastPeriod_1 rfl (by decide) rfl ?_
    refine x_iloadn (pc := 2) dX10_leastPeriod_2 rfl ?_
    refine x_aloadn (pc := 3) dX10_leastPeriod_3 rfl ?_
    refine x_getI (pc := 4) dX10_leastPeriod_4 fl_X10_15 (wd_k h).1 (wd_m h hL 0 (by decide)) ?_
    refine x_cgt (tgt := 26) (pc := 7) dX10_leastPeriod_7 (by decide) (by omega) (fun c_7 => ?_) (fun c_7 => ?_)
    rotate_left
    · skip
      exact absurd c_7 (by omega)
    refine x_iconst (pc := 26) dX10_leastPeriod_26 ?_
    refine x_rI (pc := 27) dX10_leastPeriod_27 rfl ?_
    exact ⟨by unfold zLP; rw [if_pos hn]; rfl, rfl⟩
  · skip
    refine x_iconst (pc := 0) dX10_leastPeriod_0 ?_
    refine x_istoren (pc := 1) dX10_leastPeriod_1 rfl (by decide) rfl ?_
    exact l_Wd_lp h hL hF hW (by omega) n 1 (by omega) (by omega) (by unfold zLP; rw [if_neg hn])
theorem l_Wd_rt {r n : Nat} {f : Nat → Nat} {L : List Nat} {G : Nat → Nat → Int} (h : xWd r) (hL : x_SL L) (hF : x_Fin xFL G) (hW : cWd r n f G) (hn : 1 ≤ n) :
    ∀ (k p : Nat), 1 ≤ p → p + k = n + 1 → p ≤ n → zfnd (zroot f n) k p = zRT f n → X mX10_rootLength 1 0 0 (qI L fun x G' => x = zRT f n ∧ G' = G) 2 [some (vR r), some (vI p)] [] L G 0 0 := by
  obtain ⟨w1, w2, w3⟩ := id hW
  intro k
  induction k with
  | zero => intro p _ hp hp2 _; omega
  | succ k ih =>
    intro p hp1 hp hp2 hz
    rw [zfnd] at hz
    have hml : n % p ≤ n := Nat.mod_le _ _
    have nxt : zroot f n p ≠ true → X mX10_rootLength 1 0 0 (qI L fun x G' => x = zRT f n ∧ G' = G) 29 [some (vR r), some (vI p)] [] L G 0 0 := by
      intro q
      rw [if_neg q] at hz
      have hpn : p ≠ n := fun e => q (by rw [e]; exact zroot_n f n)
      refine x_iinc (pc := 29) dX10_rootLength_29 rfl (by decide) rfl ?_
      refine x_goto (tgt := 2) (pc := 32) dX10_rootLength_32 (by decide) ?_
      exact ih (p + 1) (by omega) (by omega) (by omega) hz
    refine x_iloadn (pc := 2) dX10_rootLength_2 rfl ?_
    refine x_aloadn (pc := 3) dX10_rootLength_3 rfl ?_
    refine x_getI (pc := 4) dX10_rootLength_4 fl_X10_15 (wd_k h).1 (wd_m h hL 0 (by decide)) ?_
    refine x_cgt (tgt := 35) (pc := 7) dX10_rootLength_7 (by decide) (by omega) (fun c_7 => ?_) (fun c_7 => ?_)
    · skip
      exact absurd c_7 (by omega)
    refine x_aloadn (pc := 10) dX10_rootLength_10 rfl ?_
    refine x_getI (pc := 11) dX10_rootLength_11 fl_X10_15 (wd_k h).1 (wd_m h hL 0 (by decide)) ?_
    refine x_iloadn (pc := 14) dX10_rootLength_14 rfl ?_
    refine x_irem (pc := 15) dX10_rootLength_15 (by omega) ?_
    rw [w1, ← Int.natCast_emod]
    refine x_ine (tgt := 29) (pc := 16) dX10_rootLength_16 (by decide) (by omega) (fun c_16 => ?_) (fun c_16 => ?_)
    · skip
      refine nxt (fun q => ?_)
      unfold zroot at q
      rw [Bool.and_eq_true, decide_eq_true_iff] at q
      first | (exact absurd q.1 (by omega)) | (rename_i c9; rw [if_pos q.2] at c9; exact absurd c9 (by decide))
    · skip
      refine x_aloadn (pc := 19) dX10_rootLength_19 rfl ?_
      refine x_iloadn (pc := 20) dX10_rootLength_20 rfl ?_
      refine x_cVI (pc := 21) dX10_rootLength_21 lk_X10_32 (c_Wd_per h hL hF hW (by omega)) (wd_k h).1 ⟨by decide, rfl⟩ (wd_m h hL 0 (by decide)) (⟨by decide, by decide⟩) (Nat.le_of_ble_eq_true rfl) rfl ?_
      rintro x G' ⟨rfl, rfl⟩
      refine x_ieq (tgt := 29) (pc := 24) dX10_rootLength_24 (by decide) (by split <;> omega) (fun _ => ?_) (fun _ => ?_)
      · skip
        refine nxt (fun q => ?_)
        unfold zroot at q
        rw [Bool.and_eq_true, decide_eq_true_iff] at q
        first | (exact absurd q.1 (by omega)) | (rename_i c9; rw [if_pos q.2] at c9; exact absurd c9 (by decide))
      · skip
        refine x_iloadn (pc := 27) dX10_rootLength_27 rfl ?_
        refine x_rI (pc := 28) dX10_rootLength_28 rfl ?_
        refine ⟨?_, rfl⟩
        rename_i c9
        split at c9
        · rename_i q
          have q2 : zroot f n p = true := by unfold zroot; rw [q, Bool.and_true]; exact decide_eq_true (by omega)
          rw [if_pos q2] at hz; omega
        · exact absurd rfl c9
theorem c_Wd_rt {r n : Nat} {f : Nat → Nat} {L : List Nat} {G : Nat → Nat → Int} (h : xWd r) (hL : x_SL L) (hF : x_Fin xFL G) (hW : cWd r n f G) :
    CM yX10_rootLength mX10_rootLength 1 0 0 [vR r] L G (qI L fun x G' => x = zRT f n ∧ G' = G) := by
  have w1 := hW.1
  refine Ct.of_X (μ := mX10_rootLength) rfl rfl (by decide) (fun h => by cases h) (Nat.le_of_ble_eq_true rfl) rfl ?_
  by_cases hn : n = 0
  · skip
    refine x_iconst (pc := 0) dX10_rootLength_0 ?_
    refine x_istoren (pc := 1) dX10_rootLength_1 rfl (by decide) rfl ?_
    refine x_iloadn (pc := 2) dX10_rootLength_2 rfl ?_
    refine x_aloadn (pc := 3) dX10_rootLength_3 rfl ?_
    refine x_getI (pc := 4) dX10_rootLength_4 fl_X10_15 (wd_k h).1 (wd_m h hL 0 (by decide)) ?_
    refine x_cgt (tgt := 35) (pc := 7) dX10_rootLength_7 (by decide) (by omega) (fun c_7 => ?_) (fun c_7 => ?_)
    rotate_left
    · skip
      exact absurd c_7 (by omega)
    refine x_iconst (pc := 35) dX10_rootLength_35 ?_
    refine x_rI (pc := 36) dX10_rootLength_36 rfl ?_
    exact ⟨by unfold zRT; rw [if_pos hn]; rfl, rfl⟩
  · skip
    refine x_iconst (pc := 0) dX10_rootLength_0 ?_
    refine x_istoren (pc := 1) dX10_rootLength_1 rfl (by decide) rfl ?_
    exact l_Wd_rt h hL hF hW (by omega) n 1 (by omega) (by omega) (by omega) (by unfold zRT; rw [if_neg hn])
theorem l_Wd_pn {r n : Nat} {f : Nat → Nat} {L : List Nat} {G : Nat → Nat → Int} (h : xWd r) (hL : x_SL L) (hF : x_Fin xFL G) (hW : cWd r n f G) :
    ∀ (k p : Nat), p + k = n → X mX10_periods 1 0 0 (qI L fun x G' => x = zcn (zper f n) n ∧ G' = G) 4 [some (vR r), some (vI (zcn (zper f n) p)), some (vI ((p + 1 : Nat) : Int))] [] L G 0 0 := by
  obtain ⟨w1, w2, w3⟩ := id hW
  intro k
  induction k with
  | zero =>
    intro p hp
    have hp : p = n := by omega
    subst hp
    refine x_iloadn (pc := 4) dX10_periods_4 rfl ?_
    refine x_aloadn (pc := 5) dX10_periods_5 rfl ?_
    refine x_getI (pc := 6) dX10_periods_6 fl_X10_15 (wd_k h).1 (wd_m h hL 0 (by decide)) ?_
    refine x_cgt (tgt := 29) (pc := 9) dX10_periods_9 (by decide) (by omega) (fun c_9 => ?_) (fun c_9 => ?_)
    rotate_left
    · skip
      exact absurd c_9 (by omega)
    refine x_iloadn (pc := 29) dX10_periods_29 rfl ?_
    refine x_rI (pc := 30) dX10_periods_30 rfl ?_
    exact ⟨rfl, rfl⟩
  | succ k ih =>
    intro p hp
    have hle := zcn_le (g := zper f n) p
    refine x_iloadn (pc := 4) dX10_periods_4 rfl ?_
    refine x_aloadn (pc := 5) dX10_periods_5 rfl ?_
    refine x_getI (pc := 6) dX10_periods_6 fl_X10_15 (wd_k h).1 (wd_m h hL 0 (by decide)) ?_
    refine x_cgt (tgt := 29) (pc := 9) dX10_periods_9 (by decide) (by omega) (fun c_9 => ?_) (fun c_9 => ?_)
    · skip
      exact absurd c_9 (by omega)
    refine x_aloadn (pc := 12) dX10_periods_12 rfl ?_
    refine x_iloadn (pc := 13) dX10_periods_13 rfl ?_
    refine x_cVI (pc := 14) dX10_periods_14 lk_X10_32 (c_Wd_per h hL hF hW (by omega)) (wd_k h).1 ⟨by decide, rfl⟩ (wd_m h hL 0 (by decide)) (⟨by decide, by decide⟩) (Nat.le_of_ble_eq_true rfl) rfl ?_
    rintro x G' ⟨rfl, rfl⟩
    refine x_ieq (tgt := 23) (pc := 17) dX10_periods_17 (by decide) (by split <;> omega) (fun c_17 => ?_) (fun c_17 => ?_)
    · skip
      refine x_iinc (pc := 23) dX10_periods_23 rfl (by decide) rfl ?_
      refine x_goto (tgt := 4) (pc := 26) dX10_periods_26 (by decide) ?_
      have hs : zcn (zper f n) (p + 1) = zcn (zper f n) p + (if zper f n (p + 1) = true then 1 else 0) := rfl
      have ih2 := ih (p + 1) (by omega)
      rw [hs] at ih2
      first | (rw [if_pos (by split at c_17; assumption; exact absurd rfl c_17)] at ih2; exact ih2) | (rw [if_neg (by split at c_17; exact absurd c_17 (by decide); assumption)] at ih2; exact ih2)
    · skip
      refine x_iinc (pc := 20) dX10_periods_20 rfl (by decide) rfl ?_
      refine x_iinc (pc := 23) dX10_periods_23 rfl (by decide) rfl ?_
      refine x_goto (tgt := 4) (pc := 26) dX10_periods_26 (by decide) ?_
      have hs : zcn (zper f n) (p + 1) = zcn (zper f n) p + (if zper f n (p + 1) = true then 1 else 0) := rfl
      have ih2 := ih (p + 1) (by omega)
      rw [hs] at ih2
      first | (rw [if_pos (by split at c_17; assumption; exact absurd rfl c_17)] at ih2; exact ih2) | (rw [if_neg (by split at c_17; exact absurd c_17 (by decide); assumption)] at ih2; exact ih2)
theorem c_Wd_pn {r n : Nat} {f : Nat → Nat} {L : List Nat} {G : Nat → Nat → Int} (h : xWd r) (hL : x_SL L) (hF : x_Fin xFL G) (hW : cWd r n f G) :
    CM yX10_periods mX10_periods 1 0 0 [vR r] L G (qI L fun x G' => x = zcn (zper f n) n ∧ G' = G) := by
  refine Ct.of_X (μ := mX10_periods) rfl rfl (by decide) (fun h => by cases h) (Nat.le_of_ble_eq_true rfl) rfl ?_
  refine x_iconst (pc := 0) dX10_periods_0 ?_
  refine x_istoren (pc := 1) dX10_periods_1 rfl (by decide) rfl ?_
  refine x_iconst (pc := 2) dX10_periods_2 ?_
  refine x_istoren (pc := 3) dX10_periods_3 rfl (by decide) rfl ?_
  exact l_Wd_pn h hL hF hW n 0 (by omega)

