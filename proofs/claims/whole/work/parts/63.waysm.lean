/-! patterns making rows: the reference's next lengths, as numbers -/
def zsu (zl : Nat) (p T : Nat → Nat) : Nat → Nat
  | 0 => zl
  | u + 1 => zsu zl p T u + p u * T u
def zrs (T : Nat → Nat) : Nat → Nat → Nat
  | _, 0 => 0
  | s, k + 1 => T s + zrs T (s + 1) k
def zco (p : Nat → Nat) : Nat := 29791 * p 0 + 961 * p 1 + 31 * p 2 + p 3
def zWl (l : Nat) : Nat := if l = 0 then 923521 else if l = 1 then 29791 else if l = 2 then 961 else 31
def zDg (l : Nat) (T p : Nat → Nat) : Prop := (∀ v, v < l → p v ≤ 30 ∧ (T v = 0 → p v = 0) ∧ (0 < T v → 1 ≤ p v)) ∧ ∀ v, l ≤ v → p v = 0
def zLa (l : Nat) (T : Nat → Nat) : Prop := l < 4 ∧ 0 < T l ∧ ∀ v, l < v → v < 4 → T v = 0
def zTt (n : Nat) (I : Nat → Nat → Nat) (q : Nat) (T : Nat → Nat) (zl : Nat) : Prop := (∀ j, j < n → zV (I q j)) ∧ (∀ v, v < 4 → zct I q v n = T v) ∧ zlc I q n = zl
section XNX
variable {n m l s zl : Nat} {I : Nat → Nat → Nat} {q : Nat} {R p T : Nat → Nat}
theorem zTt.ts (h : zTt n I q T zl) : zTs n I q (T 0) (T 1) (T 2) (T 3) zl := ⟨⟨h.2.1 0 (by decide), h.2.1 1 (by decide)⟩, ⟨h.2.1 2 (by decide), h.2.1 3 (by decide)⟩, h.2.2⟩
theorem zPP_dg {a b d e : Nat} (hT : zTt n I q T zl) (ha : a ≤ 30 ∧ b ≤ 30 ∧ d ≤ 30 ∧ e ≤ 30) (h : zPP n I q m R (29791 * a + 961 * b + 31 * d + e)) : zSm (T 0) (T 1) (T 2) (T 3) zl m a b d e := by
  obtain ⟨a', b', d', e', h1, h2, h3⟩ := zPP_sm hT.ts hT.1 (by omega) h
  have e1 : a' = a := by omega
  have e2 : b' = b := by omega
  have e3 : d' = d := by omega
  have e4 : e' = e := by omega
  subst e1; subst e2; subst e3; subst e4
  exact h3
/-- no more of them share the first s lengths -/
def zAs (n : Nat) (I : Nat → Nat → Nat) (q m : Nat) (R p : Nat → Nat) (l s : Nat) : Prop := ∀ a b d e, (a ≤ 30 ∧ b ≤ 30 ∧ d ≤ 30 ∧ e ≤ 30) → zPP n I q m R (29791 * a + 961 * b + 31 * d + e) → (0 < s → a = p 0) → (1 < s → b = p 1) → (2 < s → d = p 2) → 29791 * a + 961 * b + 31 * d + e < zco p + zWl l
theorem zAs_l (hl : l < 4) (hD : zDg l T p) : zAs n I q m R p l l := by
  intro a b d e hb _ h0 h1 h2
  have d0 := hD.2
  unfold zco zWl
  rcases (show l = 0 ∨ l = 1 ∨ l = 2 ∨ l = 3 by omega) with rfl | rfl | rfl | rfl
  · have := d0 0 (by decide); have := d0 1 (by decide); have := d0 2 (by decide); have := d0 3 (by decide)
    rw [if_pos rfl]; omega
  · have := d0 1 (by decide); have := d0 2 (by decide); have := d0 3 (by decide)
    rw [if_neg (by decide), if_pos rfl]; omega
  · have := d0 2 (by decide); have := d0 3 (by decide)
    rw [if_neg (by decide), if_neg (by decide), if_pos rfl]; omega
  · have := d0 3 (by decide)
    rw [if_neg (by decide), if_neg (by decide), if_neg (by decide)]; omega
theorem zmT {a t : Nat} (h : 0 < t → 1 ≤ a) : t ≤ a * t := by
  rcases Nat.eq_zero_or_pos t with e | e
  · omega
  · exact Nat.le_mul_of_pos_left t (h e)
theorem zAs_n (hT : zTt n I q T zl) (hl : zLa l T) (hs : s < l) (hD : zDg l T p) (hA : zAs n I q m R p l (s + 1)) (hc : T s = 0 ∨ 30 ≤ p s ∨ m ≤ zsu zl p T (s + 1) + zrs T (s + 1) (l - (s + 1))) : zAs n I q m R p l s := by
  obtain ⟨l1, l2, l3⟩ := hl
  intro a b d e hb hP h0 h1 h2
  obtain ⟨s1, s2, s3, s4, s5⟩ := zPP_dg hT hb hP
  have d0 := hD.2
  have m0 := zmT s2.2
  have m1 := zmT s3.2
  have m2 := zmT s4.2
  have m3 := zmT s5.2
  have hA' := hA a b d e hb hP
  have hdv := hD.1 s hs
  rcases (show (s = 0 ∧ l = 1) ∨ (s = 0 ∧ l = 2) ∨ (s = 0 ∧ l = 3) ∨ (s = 1 ∧ l = 2) ∨ (s = 1 ∧ l = 3) ∨ (s = 2 ∧ l = 3) by omega) with ⟨rfl, rfl⟩ | ⟨rfl, rfl⟩ | ⟨rfl, rfl⟩ | ⟨rfl, rfl⟩ | ⟨rfl, rfl⟩ | ⟨rfl, rfl⟩
  · have c3 := d0 3 (by decide); have c2 := d0 2 (by decide); have c1 := d0 1 (by decide)
    simp [zsu, zrs, zco, zWl] at hc hA' ⊢
    rcases Nat.lt_trichotomy a (p 0) with e0 | e0 | e0
    · omega
    · omega
    · have k := Nat.mul_le_mul_right (T 0) (Nat.le_of_lt e0)
      omega
  · have c3 := d0 3 (by decide); have c2 := d0 2 (by decide)
    simp [zsu, zrs, zco, zWl] at hc hA' ⊢
    rcases Nat.lt_trichotomy a (p 0) with e0 | e0 | e0
    · omega
    · omega
    · have k := Nat.mul_le_mul_right (T 0) (Nat.le_of_lt e0)
      omega
  · have c3 := d0 3 (by decide)
    simp [zsu, zrs, zco, zWl] at hc hA' ⊢
    rcases Nat.lt_trichotomy a (p 0) with e0 | e0 | e0
    · omega
    · omega
    · have k := Nat.mul_le_mul_right (T 0) (Nat.le_of_lt e0)
      omega
  · have c3 := d0 3 (by decide); have c2 := d0 2 (by decide)
    have h0 := h0 (by decide)
    subst h0
    simp [zsu, zrs, zco, zWl] at hc hA' ⊢
    rcases Nat.lt_trichotomy b (p 1) with e0 | e0 | e0
    · omega
    · omega
    · have k := Nat.mul_le_mul_right (T 1) (Nat.le_of_lt e0)
      omega
  · have c3 := d0 3 (by decide)
    have h0 := h0 (by decide)
    subst h0
    simp [zsu, zrs, zco, zWl] at hc hA' ⊢
    rcases Nat.lt_trichotomy b (p 1) with e0 | e0 | e0
    · omega
    · omega
    · have k := Nat.mul_le_mul_right (T 1) (Nat.le_of_lt e0)
      omega
  · have c3 := d0 3 (by decide)
    have h0 := h0 (by decide)
    have h1 := h1 (by decide)
    subst h0; subst h1
    simp [zsu, zrs, zco, zWl] at hc hA' ⊢
    rcases Nat.lt_trichotomy d (p 2) with e0 | e0 | e0
    · omega
    · omega
    · have k := Nat.mul_le_mul_right (T 2) (Nat.le_of_lt e0)
      omega
theorem zBs_n (hs : s < l) (hc : T s = 0 ∨ p s = 1) (hB : m ≤ zsu zl p T (s + 1) + zrs T (s + 1) (l - (s + 1))) : m ≤ zsu zl p T s + zrs T s (l - s) := by
  obtain ⟨k, hk⟩ : ∃ k, l - s = k + 1 := ⟨l - s - 1, by omega⟩
  rw [show l - (s + 1) = k by omega] at hB
  rw [hk, zrs]
  rw [zsu] at hB
  rcases hc with hc | hc
  · rw [hc, Nat.mul_zero] at hB; omega
  · rw [hc, Nat.one_mul] at hB; omega
def zpn (T p : Nat → Nat) (l s : Nat) : Nat → Nat := fun v => if v < s then p v else if v = s then p s + 1 else if v < l then (if 0 < T v then 1 else 0) else 0
theorem zpn_ok (hT : zTt n I q T zl) (hl : zLa l T) (hs : s < l) (hD : zDg l T p) (hA : zAs n I q m R p l (s + 1)) (hp : p s < 30) (hTs : 0 < T s) : zDg l T (zpn T p l s) ∧ zco p + zWl l ≤ zco (zpn T p l s) ∧ zco (zpn T p l s) < 923521 ∧ zPc (zPP n I q m R) (zco (zpn T p l s)) = zPc (zPP n I q m R) (zco p + zWl l) := by
  obtain ⟨l1, l2, l3⟩ := hl
  have d0 := hD.2
  have hg : zDg l T (zpn T p l s) := by
    refine ⟨fun v hv => ?_, fun v hv => ?_⟩
    · unfold zpn
      by_cases c1 : v < s
      · rw [if_pos c1]; exact hD.1 v hv
      · rw [if_neg c1]
        by_cases c2 : v = s
        · subst c2; rw [if_pos rfl]; omega
        · rw [if_neg c2, if_pos hv]; split <;> omega
    · unfold zpn
      rw [if_neg (by omega), if_neg (by omega), if_neg (by omega)]
  have hlo : zco p + zWl l ≤ zco (zpn T p l s) ∧ zco (zpn T p l s) < 923521 := by
    have b0 := hD.1 0
    have b1 := hD.1 1
    have b2 := hD.1 2
    rcases (show (s = 0 ∧ l = 1) ∨ (s = 0 ∧ l = 2) ∨ (s = 0 ∧ l = 3) ∨ (s = 1 ∧ l = 2) ∨ (s = 1 ∧ l = 3) ∨ (s = 2 ∧ l = 3) by omega) with ⟨rfl, rfl⟩ | ⟨rfl, rfl⟩ | ⟨rfl, rfl⟩ | ⟨rfl, rfl⟩ | ⟨rfl, rfl⟩ | ⟨rfl, rfl⟩
    · have := d0 1 (by decide); have := d0 2 (by decide); have := d0 3 (by decide); have := b0 (by decide)
      simp [zco, zWl, zpn]; omega
    · have := d0 2 (by decide); have := d0 3 (by decide); have := b0 (by decide); have := b1 (by decide)
      simp [zco, zWl, zpn]; split <;> omega
    · have := d0 3 (by decide); have := b0 (by decide); have := b1 (by decide); have := b2 (by decide)
      simp [zco, zWl, zpn]; split <;> split <;> omega
    · have := d0 2 (by decide); have := d0 3 (by decide); have := b0 (by decide); have := b1 (by decide)
      simp [zco, zWl, zpn]; omega
    · have := d0 3 (by decide); have := b0 (by decide); have := b1 (by decide); have := b2 (by decide)
      simp [zco, zWl, zpn]; split <;> omega
    · have := d0 3 (by decide); have := b0 (by decide); have := b1 (by decide); have := b2 (by decide)
      simp [zco, zWl, zpn]; omega
  refine ⟨hg, hlo.1, hlo.2, zPc_skip _ hlo.1 (fun c h1 h2 hP => ?_)⟩
  have hq := zdg_eq (c := c) (by omega)
  obtain ⟨a, b, d, e, hb, hce⟩ : ∃ a b d e, (a ≤ 30 ∧ b ≤ 30 ∧ d ≤ 30 ∧ e ≤ 30) ∧ c = 29791 * a + 961 * b + 31 * d + e := ⟨_, _, _, _, hq.2, hq.1⟩
  subst hce
  obtain ⟨s1, s2, s3, s4, s5⟩ := zPP_dg hT hb hP
  have hA' := hA a b d e hb hP
  have b0 := hD.1 0
  have b1 := hD.1 1
  have b2 := hD.1 2
  rcases (show (s = 0 ∧ l = 1) ∨ (s = 0 ∧ l = 2) ∨ (s = 0 ∧ l = 3) ∨ (s = 1 ∧ l = 2) ∨ (s = 1 ∧ l = 3) ∨ (s = 2 ∧ l = 3) by omega) with ⟨rfl, rfl⟩ | ⟨rfl, rfl⟩ | ⟨rfl, rfl⟩ | ⟨rfl, rfl⟩ | ⟨rfl, rfl⟩ | ⟨rfl, rfl⟩
  · have := d0 1 (by decide); have := d0 2 (by decide); have := d0 3 (by decide); have := b0 (by decide)
    simp [zco, zWl, zpn] at h1 h2 hA'; omega
  · have := d0 2 (by decide); have := d0 3 (by decide); have := b0 (by decide); have := b1 (by decide)
    simp [zco, zWl, zpn] at h1 h2 hA'; split at h2 <;> omega
  · have := d0 3 (by decide); have := b0 (by decide); have := b1 (by decide); have := b2 (by decide)
    simp [zco, zWl, zpn] at h1 h2 hA'; split at h2 <;> split at h2 <;> omega
  · have := d0 2 (by decide); have := d0 3 (by decide); have := b0 (by decide); have := b1 (by decide)
    simp [zco, zWl, zpn] at h1 h2 hA'; omega
  · have := d0 3 (by decide); have := b0 (by decide); have := b1 (by decide); have := b2 (by decide)
    simp [zco, zWl, zpn] at h1 h2 hA'; split at h2 <;> omega
  · have := d0 3 (by decide); have := b0 (by decide); have := b1 (by decide); have := b2 (by decide)
    simp [zco, zWl, zpn] at h1 h2 hA'; omega
theorem zAs_0 (hA : zAs n I q m R p l 0) (hb : zco p + zWl l ≤ 923521) : zWays n I q m R = zPc (zPP n I q m R) (zco p + zWl l) := by
  refine zPc_skip _ hb (fun c h1 h2 hP => ?_)
  have hq := zdg_eq (c := c) h2
  have := hA _ _ _ _ hq.2 (by rw [← hq.1]; exact hP) (fun w => absurd w (by decide)) (fun w => absurd w (by decide)) (fun w => absurd w (by decide))
  rw [← hq.1] at this
  omega
theorem zco_hi (hl : l < 4) (hD : zDg l T p) : zco p + zWl l ≤ 923521 := by
  have b0 := hD.1 0
  have b1 := hD.1 1
  have b2 := hD.1 2
  have d0 := hD.2
  unfold zco zWl
  rcases (show l = 0 ∨ l = 1 ∨ l = 2 ∨ l = 3 by omega) with rfl | rfl | rfl | rfl
  · have := d0 0 (by decide); have := d0 1 (by decide); have := d0 2 (by decide); have := d0 3 (by decide)
    rw [if_pos rfl]; omega
  · have := d0 1 (by decide); have := d0 2 (by decide); have := d0 3 (by decide); have := b0 (by decide)
    rw [if_neg (by decide), if_pos rfl]; omega
  · have := d0 2 (by decide); have := d0 3 (by decide); have := b0 (by decide); have := b1 (by decide)
    rw [if_neg (by decide), if_neg (by decide), if_pos rfl]; omega
  · have := d0 3 (by decide); have := b0 (by decide); have := b1 (by decide); have := b2 (by decide)
    rw [if_neg (by decide), if_neg (by decide), if_neg (by decide)]; omega
end XNX

