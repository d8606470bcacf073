/-! the falling part's length by the class's walk is the longest prefix ahead of all its ends -/
theorem zaf_iff (f : Nat → Nat) (fr e : Nat) : ∀ k j, zaf f fr e k j = true ↔ ∃ i, j ≤ i ∧ i < j + k ∧ (∀ x, j ≤ x → x < i → f (fr + x) = f (e + x)) ∧ f (fr + i) < f (e + i)
  | 0, j => by rw [zaf]; exact ⟨fun h => (Bool.false_ne_true h).elim, fun ⟨i, h1, h2, _⟩ => absurd h2 (by omega)⟩
  | k + 1, j => by
    rw [zaf]
    by_cases c : f (fr + j) = f (e + j)
    · rw [if_pos c, zaf_iff f fr e k (j + 1)]
      constructor
      · rintro ⟨i, h1, h2, h3, h4⟩
        refine ⟨i, by omega, by omega, fun x hx hy => ?_, h4⟩
        by_cases cx : x = j
        · rw [cx]; exact c
        · exact h3 x (by omega) hy
      · rintro ⟨i, h1, h2, h3, h4⟩
        have : i ≠ j := fun q => by rw [q] at h4; omega
        exact ⟨i, by omega, by omega, fun x hx hy => h3 x (by omega) hy, h4⟩
    · rw [if_neg c, decide_eq_true_iff]
      constructor
      · exact fun h => ⟨j, Nat.le_refl _, by omega, fun x hx hy => absurd hy (by omega), h⟩
      · rintro ⟨i, h1, h2, h3, h4⟩
        by_cases ci : i = j
        · rw [ci] at h4; exact h4
        · exact absurd (h3 j (Nat.le_refl _) (by omega)) c
theorem zly_iff (f : Nat → Nat) (fr n : Nat) : zly f fr n = true ↔ ∀ e, 1 ≤ e → e < n → ∃ j, e + j < n ∧ (∀ x, x < j → f (fr + x) = f (fr + e + x)) ∧ f (fr + j) < f (fr + e + j) := by
  unfold zly
  rw [zall_iff]
  constructor
  · intro h e he hn
    have h1 := h (e - 1) (by omega)
    have h1 := (zaf_iff _ _ _ _ _).mp h1
    obtain ⟨i, h2, h3, h4, h5⟩ := h1
    rw [show fr + (e - 1 + 1) = fr + e by omega] at h4 h5
    exact ⟨i, by omega, fun x hx => h4 x (Nat.zero_le _) hx, h5⟩
  · intro h e he
    obtain ⟨j, h1, h2, h3⟩ := h (e + 1) (by omega) (by omega)
    refine (zaf_iff _ _ _ _ _).mpr ⟨j, Nat.zero_le _, by omega, fun x _ hx => ?_, ?_⟩
    · rw [← Nat.add_assoc fr e 1] at *; exact h2 x hx
    · exact h3
theorem zpb_eq (f : Nat → Nat) (fr p : Nat) (hp : 1 ≤ p) (hy : zly f fr p = true) : ∀ t, p ≤ t + 1 → (∀ l, p < l → l ≤ t + 1 → zly f fr l = false) → zpb f fr t = p
  | 0, h, _ => by rw [zpb]; omega
  | t + 1, h, hn => by
    rw [zpb]
    by_cases c : p = t + 2
    · rw [if_pos (by rw [← c]; exact hy)]; exact c.symm
    · rw [if_neg (by rw [hn (t + 2) (by omega) (by omega)]; exact Bool.false_ne_true)]
      exact zpb_eq f fr p hp hy t (by omega) (fun l h1 h2 => hn l h1 (by omega))
theorem zdvP (f : Nat → Nat) (fr m p : Nat) (hp : 1 ≤ p) (D : ∀ i, i + p < m → f (fr + i) = f (fr + i + p)) : ∀ i, i < m → f (fr + i) = f (fr + i % p) := by
  intro i
  induction i using Nat.strongRecOn with
  | _ i ih =>
    intro hi
    by_cases c : i < p
    · rw [Nat.mod_eq_of_lt c]
    · have h1 := D (i - p) (by omega)
      rw [show fr + (i - p) + p = fr + i by omega] at h1
      rw [← h1, ih (i - p) (by omega) (by omega), Nat.mod_eq_sub_mod (show p ≤ i by omega)]
theorem zdvS (f : Nat → Nat) (fr m p : Nat) (hp : 1 ≤ p) (hm : p ≤ m) (D : ∀ i, i + p < m → f (fr + i) = f (fr + i + p)) (hy : zly f fr p = true) (hc : f (fr + (m - p)) < f (fr + m)) : zly f fr (m + 1) = true := by
  have P := zdvP f fr m p hp D
  have hlike : f (fr + (m - p)) = f (fr + m % p) := by
    rw [P (m - p) (by omega), Nat.mod_eq_sub_mod (show p ≤ m by omega)]
  refine (zly_iff _ _ _).mpr fun e he hn => ?_
  have hq : p * (e / p) + e % p = e := Nat.div_add_mod e p
  have hr : e % p < p := Nat.mod_lt _ (by omega)
  have M : ∀ j, e % p + j < p → (e + j) % p = e % p + j := fun j hj => by
    have h0 : (p * (e / p) + (e % p + j)) % p = e % p + j := by rw [Nat.mul_add_mod, Nat.mod_eq_of_lt hj]
    rw [← Nat.add_assoc, hq] at h0
    exact h0
  by_cases c0 : e % p = 0
  · refine ⟨m - e, by omega, fun x hx => ?_, ?_⟩
    · rw [Nat.add_assoc, P x (by omega), P (e + x) (by omega), Nat.add_mod, c0, Nat.zero_add, Nat.mod_mod]
    · rw [show fr + e + (m - e) = fr + m by omega, P (m - e) (by omega)]
      have : (m - e) % p = m % p := by
        have h : m = (m - e) + e := by omega
        conv => rhs; rw [h, Nat.add_mod, c0, Nat.add_zero, Nat.mod_mod]
      rw [this]; omega
  · obtain ⟨j, h1, h2, h3⟩ := (zly_iff _ _ _).mp hy (e % p) (by omega) hr
    by_cases c1 : e + j < m
    · refine ⟨j, by omega, fun x hx => ?_, ?_⟩
      · rw [h2 x hx, Nat.add_assoc fr e x, P (e + x) (by omega), M x (by omega), ← Nat.add_assoc]
      · rw [Nat.add_assoc fr e j, P (e + j) (by omega), M j (by omega), ← Nat.add_assoc]; exact h3
    · have hj1 : m - e ≤ j := by omega
      refine ⟨m - e, by omega, fun x hx => ?_, ?_⟩
      · rw [h2 x (by omega), Nat.add_assoc fr e x, P (e + x) (by omega), M x (by omega), ← Nat.add_assoc]
      · rw [show fr + e + (m - e) = fr + m by omega]
        have h4 : m % p = e % p + (m - e) := by
          have := M (m - e) (by omega)
          rw [show e + (m - e) = m by omega] at this; exact this
        have h5 : f (fr + (m - e)) ≤ f (fr + e % p + (m - e)) := by
          by_cases c2 : m - e = j
          · rw [c2]; omega
          · exact Nat.le_of_eq (h2 (m - e) (by omega))
        rw [Nat.add_assoc fr, ← h4, ← hlike] at h5
        omega
theorem zdvB (f : Nat → Nat) (fr m p : Nat) (hp : 1 ≤ p) (D : ∀ i, i + p < m → f (fr + i) = f (fr + i + p)) (l : Nat) (hl : p < l) (h : l ≤ m ∨ f (fr + m) < f (fr + (m - p)) ∧ p ≤ m) : zly f fr l = false := by
  rw [← Bool.not_eq_true]
  intro q
  obtain ⟨j, h1, h2, h3⟩ := (zly_iff _ _ _).mp q p hp hl
  by_cases c : p + j < m
  · have := D j (by omega)
    rw [show fr + j + p = fr + p + j by omega] at this
    omega
  · rcases h with h | ⟨h, hm⟩
    · omega
    · by_cases c2 : j = m - p
      · subst c2
        rw [show fr + p + (m - p) = fr + m by omega] at h3
        omega
      · have := h2 (m - p) (by omega)
        rw [show fr + p + (m - p) = fr + m by omega] at this
        omega
theorem zdv_eq (f : Nat → Nat) (n fr : Nat) : ∀ k like to, fr ≤ like → like < to → to + k = n → (∀ i, i + (to - like) < to - fr → f (fr + i) = f (fr + i + (to - like))) → zly f fr (to - like) = true → zdv f n fr k like to = zpf f n fr := by
  intro k
  induction k with
  | zero =>
    intro like to h1 h2 h3 D hy
    rw [zdv]
    exact (zpb_eq f fr (to - like) (by omega) hy (n - fr - 1) (by omega) (fun l h4 h5 => zdvB f fr (to - fr) (to - like) (by omega) D l h4 (Or.inl (by omega)))).symm
  | succ k ih =>
    intro like to h1 h2 h3 D hy
    have e1 : fr + (to - fr - (to - like)) = like := by omega
    have e2 : fr + (to - fr) = to := by omega
    rw [zdv]
    by_cases c : f like ≤ f to
    · rw [if_pos c]
      by_cases c2 : f like < f to
      · rw [if_pos c2]
        refine ih fr (to + 1) (by omega) (by omega) (by omega) (fun i hi => absurd hi (by omega)) ?_
        have := zdvS f fr (to - fr) (to - like) (by omega) (by omega) D hy (by rw [e1, e2]; exact c2)
        rw [show to + 1 - fr = to - fr + 1 by omega]; exact this
      · rw [if_neg c2]
        refine ih (like + 1) (to + 1) (by omega) (by omega) (by omega) (fun i hi => ?_) (by rw [show to + 1 - (like + 1) = to - like by omega]; exact hy)
        rw [show to + 1 - (like + 1) = to - like by omega] at hi ⊢
        by_cases c3 : i + (to - like) < to - fr
        · exact D i c3
        · rw [show fr + i = like by omega, show like + (to - like) = to by omega]; omega
    · rw [if_neg c]
      refine (zpb_eq f fr (to - like) (by omega) hy (n - fr - 1) (by omega) (fun l h4 h5 => zdvB f fr (to - fr) (to - like) (by omega) D l h4 (Or.inr ⟨?_, by omega⟩))).symm
      rw [e1, e2]; omega
theorem zfl_eq {f : Nat → Nat} {n fr : Nat} (h : fr < n) : zfl f n fr = zpf f n fr := by
  unfold zfl
  exact zdv_eq f n fr (n - (fr + 1)) fr (fr + 1) (Nat.le_refl _) (by omega) (by omega) (fun i hi => absurd hi (by omega)) (by rw [show fr + 1 - fr = 1 by omega]; rfl)
theorem zfc_eq {f : Nat → Nat} {n : Nat} : ∀ k p, zfc (zpf f n) n k p = zfc (zfl f n) n k p
  | 0, _ => rfl
  | k + 1, p => by
    rw [zfc, zfc]
    by_cases c : p < n
    · rw [if_pos c, if_pos c, zfl_eq c, zfc_eq k]
    · rw [if_neg c, if_neg c]
theorem zfk_eq {f : Nat → Nat} {n K : Nat} : ∀ k p m, zfk (zpf f n) n K k p m = zfk (zfl f n) n K k p m
  | 0, _, _ => rfl
  | k + 1, p, m => by
    rw [zfk, zfk]
    by_cases c : p < n
    · rw [if_pos c, if_pos c, zfl_eq c, zfk_eq k]
    · rw [if_neg c, if_neg c]

