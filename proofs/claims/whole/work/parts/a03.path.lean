/-! chains: paths to the end, the chain by which it was met first -/
def zPa (n : Nat) (T : Nat → Int) (B : Nat → Prop) : Nat → Nat → Prop
  | 0, x => x < n ∧ B x
  | t + 1, x => x < n ∧ ∃ j y : Nat, j < 4 ∧ T (4 * x + j) = (y : Int) ∧ zPa n T B t y
/-- how far the end is: -1, it isn't met -/
def zDi (n : Nat) (T : Nat → Int) (B : Nat → Prop) (d : Int) (x : Nat) : Prop := (d = -1 ∧ ∀ t, ¬ zPa n T B t x) ∨ ∃ t : Nat, d = t ∧ zPa n T B t x ∧ ∀ t', t' < t → ¬ zPa n T B t' x
def zcd (cb : Nat → Nat) (D : Nat) : Nat → Nat
  | 0 => D
  | i + 1 => cb (zcd cb D i) / 4
def zml (cb : Nat → Nat) : Nat → Nat → Nat
  | 0, _ => 0
  | f + 1, k => if k = 0 then 0 else zml cb f (cb k / 4) + 1
section ZPT
variable {n : Nat} {T : Nat → Int} {cb : Nat → Nat} {B : Nat → Prop} {D : Nat}
theorem zPa_lt : ∀ {t x : Nat}, zPa n T B t x → x < n
  | 0, _, h => h.1
  | _ + 1, _, h => h.1
theorem zDi_un {d d' : Int} {x : Nat} (h : zDi n T B d x) (h' : zDi n T B d' x) : d = d' := by
  rcases h with ⟨e, h⟩ | ⟨t, e, h1, h2⟩ <;> rcases h' with ⟨e', h'⟩ | ⟨t', e', h1', h2'⟩
  · omega
  · exact absurd h1' (h t')
  · exact absurd h1 (h' t)
  · rcases Nat.lt_trichotomy t t' with c | c | c
    · exact absurd h1 (h2' t c)
    · omega
    · exact absurd h1' (h2 t' c)
theorem zPa_no (h : ∀ x, x < n → ¬ B x) : ∀ t x, ¬ zPa n T B t x
  | 0, x, k => h x k.1 k.2
  | t + 1, x, ⟨_, _, y, _, _, k⟩ => zPa_no h t y k
theorem zcd_sh : ∀ (i k : Nat), zcd cb k (i + 1) = zcd cb (cb k / 4) i
  | 0, _ => rfl
  | i + 1, k => by rw [zcd, zcd_sh i k]; rfl
theorem zml_sp (hG : zGr n T cb) : ∀ f k, k ≤ f → k < n → zcd cb k (zml cb f k) = 0 ∧ (∀ i, i < zml cb f k → zcd cb k i ≠ 0) ∧ zml cb f k ≤ k
  | 0, k, h, _ => ⟨by show k = 0; omega, fun i hi => absurd hi (Nat.not_lt_zero i), Nat.zero_le _⟩
  | f + 1, k, h, hn => by
    rw [zml]
    by_cases c : k = 0
    · rw [if_pos c]
      exact ⟨c, fun i hi => absurd hi (Nat.not_lt_zero i), Nat.zero_le _⟩
    · rw [if_neg c]
      have hk := (hG.2.1 k (by omega) hn).2
      obtain ⟨h1, h2, h3⟩ := zml_sp hG f (cb k / 4) (by omega) (by omega)
      refine ⟨by rw [zcd_sh]; exact h1, fun i hi => ?_, by omega⟩
      cases i with
      | zero => exact c
      | succ i => rw [zcd_sh]; exact h2 i (by omega)
/-- m puttings lead from D back to 0 -/
def zCh (n : Nat) (cb : Nat → Nat) (D m : Nat) : Prop := D < n ∧ zcd cb D m = 0 ∧ ∀ i, i < m → zcd cb D i ≠ 0
theorem zCh.mk' (hG : zGr n T cb) (hD : D < n) : zCh n cb D (zml cb D D) ∧ zml cb D D ≤ D := by
  obtain ⟨h1, h2, h3⟩ := zml_sp hG D D (Nat.le_refl _) hD
  exact ⟨⟨hD, h1, h2⟩, h3⟩
theorem zCh.lt {m : Nat} (hG : zGr n T cb) (h : zCh n cb D m) : ∀ i, i ≤ m → zcd cb D i < n
  | 0, _ => h.1
  | i + 1, hi => by
    have ih := zCh.lt hG h i (by omega)
    have h0 := h.2.2 i (by omega)
    have := (hG.2.1 (zcd cb D i) (by omega) ih).2
    rw [zcd]; omega
theorem zCh.dn {m i : Nat} (hG : zGr n T cb) (h : zCh n cb D m) (hi : i < m) : zcd cb D (i + 1) < zcd cb D i := by
  have h0 := h.2.2 i hi
  have := (hG.2.1 (zcd cb D i) (by omega) (h.lt hG i (by omega))).2
  rw [zcd]; exact this
theorem zCh.dec {m i : Nat} (hG : zGr n T cb) (h : zCh n cb D m) : ∀ j, i < j → j ≤ m → zcd cb D j < zcd cb D i
  | 0, hj, _ => absurd hj (Nat.not_lt_zero i)
  | j + 1, hj, hm => by
    have h1 := h.dn hG (show j < m by omega)
    by_cases c : i = j
    · rw [c]; exact h1
    · have := zCh.dec (i := i) hG h j (by omega) (by omega); omega
theorem zCh.path {m : Nat} (hG : zGr n T cb) (h : zCh n cb D m) (hB : B D) : ∀ t, t ≤ m → zPa n T B t (zcd cb D t)
  | 0, _ => ⟨h.1, hB⟩
  | t + 1, ht => by
    have h0 := h.2.2 t (by omega)
    have hl := h.lt hG t (by omega)
    refine ⟨h.lt hG (t + 1) ht, cb (zcd cb D t) % 4, zcd cb D t, Nat.mod_lt _ (by decide), ?_, zCh.path hG h hB t (by omega)⟩
    rw [zcd, Nat.div_add_mod]
    exact (hG.2.1 _ (by omega) hl).1
theorem zCh.no {m : Nat} (hG : zGr n T cb) (h : zCh n cb D m) (hB : ∀ x, x < n → B x → x = D) : ∀ t, t ≤ m → ∀ x, zPa n T B t x → zcd cb D t ≤ x
  | 0, _, x, k => by rw [hB x k.1 k.2]; exact Nat.le_refl _
  | t + 1, ht, x, ⟨k1, j, y, k2, k3, k4⟩ => by
    have ih := zCh.no hG h hB t (by omega) y k4
    have h0 := h.2.2 t (by omega)
    have hl := h.lt hG t (by omega)
    rcases Nat.lt_or_ge x (zcd cb D (t + 1)) with c | c
    · rw [zcd] at c
      have := hG.2.2 (zcd cb D t) (4 * x + j) (by omega) hl (by omega)
      omega
    · exact c
theorem zCh.di {m t : Nat} (hG : zGr n T cb) (h : zCh n cb D m) (hD : B D) (hB : ∀ x, x < n → B x → x = D) (ht : t ≤ m) : zDi n T B t (zcd cb D t) :=
  Or.inr ⟨t, rfl, h.path hG hD t ht, fun t' h' k => by
    have h1 := h.no hG hB t' (by omega) _ k
    have h2 := h.dec hG (i := t') t h' ht
    omega⟩
/-- no earlier putting is on a way as short -/
theorem zCh.gr {m t j y : Nat} (hG : zGr n T cb) (h : zCh n cb D m) (hB : ∀ x, x < n → B x → x = D) (ht : t < m) (hj : j < cb (zcd cb D t) % 4) (hT : T (4 * zcd cb D (t + 1) + j) = (y : Int)) (hd : zDi n T B t y) : False := by
  have h0 := h.2.2 t ht
  have hl := h.lt hG t (by omega)
  rcases hd with ⟨e, _⟩ | ⟨t', e, k, _⟩
  · omega
  · have e2 : t' = t := by omega
    subst e2
    have h1 := h.no hG hB t' (by omega) y k
    rw [zcd] at hT
    have := hG.2.2 (zcd cb D t') (4 * (cb (zcd cb D t') / 4) + j) (by omega) hl (by omega)
    omega
/-! rings -/
def zLe (n : Nat) (T : Nat → Int) (B : Nat → Prop) (x : Nat) : Prop := ∃ t, zPa n T B t x
theorem zLe.lt {x : Nat} (h : zLe n T B x) : x < n := by obtain ⟨t, h⟩ := h; exact zPa_lt h
theorem zLe.bk {x j y : Nat} (h : zLe n T B y) (hx : x < n) (hj : j < 4) (hT : T (4 * x + j) = (y : Int)) : zLe n T B x := by
  obtain ⟨t, h⟩ := h; exact ⟨t + 1, hx, j, y, hj, hT, h⟩
/-- no ring among those that lead to the end -/
def zAc (n : Nat) (T : Nat → Int) (B : Nat → Prop) : Prop := ∃ rk : Nat → Nat, ∀ x j y : Nat, x < n → j < 4 → T (4 * x + j) = (y : Int) → zLe n T B y → rk x < rk y
theorem zAc_in (h : zAc n T B) (S : Nat → Prop) (h1 : ∀ y, S y → zLe n T B y) (h2 : ∀ y, S y → ∃ x j, S x ∧ j < 4 ∧ T (4 * x + j) = (y : Int)) : ∀ y, ¬ S y := by
  obtain ⟨rk, h⟩ := h
  have key : ∀ r y, rk y = r → ¬ S y := by
    intro r
    induction r using Nat.strongRecOn with
    | ind r ih =>
      intro y hr hS
      obtain ⟨x, j, k1, k2, k3⟩ := h2 y hS
      have := h x j y (h1 x k1).lt k2 k3 (h1 y hS)
      exact ih (rk x) (by omega) x rfl k1
  exact fun y => key (rk y) y rfl
theorem zrk_max (rk : Nat → Nat) : ∀ n, ∃ M, ∀ x, x < n → rk x < M
  | 0 => ⟨0, fun x h => absurd h (Nat.not_lt_zero x)⟩
  | n + 1 => by
    obtain ⟨M, h⟩ := zrk_max rk n
    refine ⟨M + rk n + 1, fun x hx => ?_⟩
    by_cases c : x = n
    · rw [c]; omega
    · have := h x (by omega); omega
theorem zAc_out (h : zAc n T B) (S : Nat → Prop) (h1 : ∀ y, S y → zLe n T B y) (h2 : ∀ x, S x → ∃ j y, S y ∧ j < 4 ∧ T (4 * x + j) = (y : Int)) : ∀ y, ¬ S y := by
  obtain ⟨rk, h⟩ := h
  obtain ⟨M, hM⟩ := zrk_max rk n
  have key : ∀ r y, M - rk y = r → ¬ S y := by
    intro r
    induction r using Nat.strongRecOn with
    | ind r ih =>
      intro x hr hS
      obtain ⟨j, y, k1, k2, k3⟩ := h2 x hS
      have := h x j y (h1 x hS).lt k2 k3 (h1 y k1)
      have := hM y (h1 y k1).lt
      exact ih (M - rk y) (by omega) y rfl k1
  exact fun y => key (M - rk y) y rfl
end ZPT
/-! the words that a chain puts -/
def zws (w : Nat → List Nat) (u : Nat) (p : Int) : Nat → List Nat := fun v => if v = u then (if p = -1 then [] else if p < 4 then p.toNat :: w u else w (p.toNat - 4) ++ w u) else w v
/-- putting e of the equations met -/
def zeu (s0 : zSt) (e : Nat) : Nat := match (zN s0 e)[e / 4]? with
  | none => 0
  | some s => (zpu (zhd s.1) (zhd s.2) (e % 4)).toNat
def zep (s0 : zSt) (e : Nat) : Int := match (zN s0 e)[e / 4]? with
  | none => 0
  | some s => zpi (zhd s.1) (zhd s.2) (e % 4)
noncomputable def zww (s0 : zSt) (D : Nat) : Nat → Nat → List Nat
  | 0 => fun _ => []
  | i + 1 => zws (zww s0 D i) (zeu s0 (zcb s0 (zcd (zcb s0) D i)) - 4) (zep s0 (zcb s0 (zcd (zcb s0) D i)))
/-- no word grows too long in the first m puttings -/
def zwk (s0 : zSt) (D m : Nat) : Prop := ∀ i, i ≤ m → ∀ u, u < 4 → (zww s0 D i u).length ≤ 300

