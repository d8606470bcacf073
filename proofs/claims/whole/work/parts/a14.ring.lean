/-! the class: rings -/
theorem zhn_ex {a b : Nat → Nat} : ∀ n, zhn a n < zhn b n → ∃ y, y < n ∧ b y ≠ 0 ∧ a y = 0
  | 0, h => absurd h (Nat.lt_irrefl _)
  | n + 1, h => by
    rw [zhn, zhn] at h
    by_cases c : b n ≠ 0 ∧ a n = 0
    · exact ⟨n, by omega, c.1, c.2⟩
    · have h2 : zhn a n < zhn b n := by
        by_cases c1 : b n = 0
        · rw [if_pos c1] at h; split at h <;> omega
        · have c2 : a n ≠ 0 := fun w => c ⟨c1, w⟩
          rw [if_neg c1, if_neg c2] at h; omega
      obtain ⟨y, y1, y2⟩ := zhn_ex n h2
      exact ⟨y, by omega, y2⟩
theorem zhn_sub {a b : Nat → Nat} (h : ∀ x, a x ≠ 0 → b x ≠ 0) : ∀ n, zhn a n ≤ zhn b n ∧ ((∃ y, y < n ∧ b y ≠ 0 ∧ a y = 0) → zhn a n < zhn b n)
  | 0 => ⟨Nat.le_refl _, fun ⟨y, hy, _⟩ => absurd hy (Nat.not_lt_zero y)⟩
  | n + 1 => by
    obtain ⟨h1, h2⟩ := zhn_sub h n
    have hn := h n
    rw [zhn, zhn]
    refine ⟨?_, fun ⟨y, y1, y2, y3⟩ => ?_⟩
    · by_cases c : a n = 0
      · rw [if_pos c]; split <;> omega
      · rw [if_neg c, if_neg (hn c)]; omega
    · by_cases k : y = n
      · subst k
        rw [if_pos y3, if_neg y2]; omega
      · have h3 := h2 ⟨y, by omega, y2, y3⟩
        by_cases c : a n = 0
        · rw [if_pos c]; split <;> omega
        · rw [if_neg c, if_neg (hn c)]; omega
/-- edges into q that are not done with -/
def zied (T : Nat → Int) (q : Nat) (pr : Nat → Nat) : Nat → Nat
  | 0 => 0
  | e + 1 => zied T q pr e + (if T e = ((q : Nat) : Int) ∧ pr e = 0 then 1 else 0)
theorem zied_le {T : Nat → Int} {q : Nat} {pr : Nat → Nat} : ∀ m, zied T q pr m ≤ m
  | 0 => Nat.le_refl _
  | m + 1 => by have := zied_le (T := T) (q := q) (pr := pr) m; rw [zied]; split <;> omega
theorem zied_0 {T : Nat → Int} {q : Nat} {pr : Nat → Nat} : ∀ m, zied T q pr m = 0 ↔ ∀ e, e < m → T e = ((q : Nat) : Int) → pr e ≠ 0
  | 0 => ⟨fun _ e h => absurd h (Nat.not_lt_zero e), fun _ => rfl⟩
  | m + 1 => by
    have ih := zied_0 (T := T) (q := q) (pr := pr) m
    rw [zied]
    constructor
    · intro h e he hT hp
      by_cases c : e = m
      · subst c
        rw [if_pos ⟨hT, hp⟩] at h; omega
      · exact ih.mp (by omega) e (by omega) hT hp
    · intro h
      rw [if_neg (fun w => h m (by omega) w.1 w.2), ih.mpr (fun e he => h e (by omega))]
theorem zied_cg {T : Nat → Int} {q : Nat} {pr pr' : Nat → Nat} : ∀ m, (∀ e, e < m → pr' e = pr e) → zied T q pr' m = zied T q pr m
  | 0, _ => rfl
  | m + 1, h => by rw [zied, zied, zied_cg m (fun e he => h e (by omega)), h m (by omega)]
theorem zied_up {T : Nat → Int} {q e0 : Nat} {pr : Nat → Nat} (h0 : pr e0 = 0) : ∀ m, e0 < m → zied T q pr m = zied T q (zup pr e0 1) m + (if T e0 = ((q : Nat) : Int) then 1 else 0)
  | 0, h => absurd h (Nat.not_lt_zero _)
  | m + 1, h => by
    rw [zied, zied]
    by_cases c : e0 = m
    · subst c
      rw [zied_cg e0 (fun e he => zupk (v := 1) (f := pr) (show e ≠ e0 by omega)), zups]
      have h1 : ¬ (T e0 = ((q : Nat) : Int) ∧ 1 = 0) := fun w => absurd w.2 (by decide)
      rw [if_neg h1]
      by_cases k : T e0 = ((q : Nat) : Int)
      · rw [if_pos ⟨k, h0⟩, if_pos k]
      · rw [if_neg (fun w => k w.1), if_neg k]
    · rw [zied_up h0 m (by omega), zupk (fun w => c w.symm)]
      omega
section XRG
variable {n : Nat} {T : Nat → Int} {B : Nat → Prop} {ld : Nat → Nat}
def zKh (n : Nat) (T : Nat → Int) (ld : Nat → Nat) (i kk qd : Nat) (qf pr im : Nat → Nat) : Prop :=
  (∀ a, a < qd → qf a < n ∧ ld (qf a) = 1 ∧ zied T (qf a) pr (4 * n) = 0) ∧
  (∀ q, q < n → ld q = 1 → zied T q pr (4 * n) = 0 → ∃ a, a < qd ∧ qf a = q) ∧
  (∀ a b, a < b → b < qd → qf a ≠ qf b) ∧
  (∀ p, p < qd → ∀ e, e < 4 * n → T e = ((qf p : Nat) : Int) → ∃ a, a < p ∧ qf a = e / 4) ∧
  (∀ e, e < 4 * n → pr e ≠ 0 → ∃ a, a < qd ∧ (a < i ∨ (a = i ∧ e % 4 < kk)) ∧ qf a = e / 4) ∧
  (∀ a, a < qd → ∀ j, j < 4 → (a < i ∨ (a = i ∧ j < kk)) → pr (4 * qf a + j) ≠ 0) ∧
  zhn im n = qd ∧ ∀ q, im q ≠ 0 ↔ ∃ a, a < qd ∧ qf a = q
theorem zKh.inj {i kk qd a b : Nat} {qf pr im : Nat → Nat} (h : zKh n T ld i kk qd qf pr im) (ha : a < qd) (hb : b < qd) (e : qf a = qf b) : a = b := by
  rcases Nat.lt_trichotomy a b with c | c | c
  · exact absurd e (h.2.2.1 a b c hb)
  · exact c
  · exact absurd e.symm (h.2.2.1 b a c ha)
theorem zKh.pr0 {i kk qd : Nat} {qf pr im : Nat → Nat} (h : zKh n T ld i kk qd qf pr im) (hi : i < qd) (hk : kk < 4) : pr (4 * qf i + kk) = 0 := by
  apply Classical.byContradiction
  intro w
  have hq := (h.1 i hi).1
  obtain ⟨a, a1, a2, a3⟩ := h.2.2.2.2.1 (4 * qf i + kk) (by omega) w
  have e := h.inj a1 hi (by omega)
  omega
theorem zKh.step0 {i kk qd : Nat} {qf pr im : Nat → Nat} (h : zKh n T ld i kk qd qf pr im) (hi : i < qd) (hk : kk < 4) (hno : ∀ y, y < n → ld y = 1 → T (4 * qf i + kk) = ((y : Nat) : Int) → zied T y (zup pr (4 * qf i + kk) 1) (4 * n) ≠ 0) : zKh n T ld i (kk + 1) qd qf (zup pr (4 * qf i + kk) 1) im := by
  have h0 := h.pr0 hi hk
  have hq := (h.1 i hi).1
  obtain ⟨h1, h2, h3, h4, h5, h6, h7, h8⟩ := h
  have zu := fun q => zied_up (T := T) (q := q) h0 (4 * n) (by omega)
  refine ⟨fun a ha => ⟨(h1 a ha).1, (h1 a ha).2.1, ?_⟩, fun q hq2 hl hz => ?_, h3, h4, fun e he hp => ?_, fun a ha j hj hc => ?_, h7, h8⟩
  · have := zu (qf a); have := (h1 a ha).2.2; omega
  · by_cases c : T (4 * qf i + kk) = ((q : Nat) : Int)
    · exact absurd hz (hno q hq2 hl c)
    · have e := zu q
      rw [if_neg c] at e
      exact h2 q hq2 hl (by omega)
  · by_cases c : e = 4 * qf i + kk
    · exact ⟨i, hi, Or.inr ⟨rfl, by omega⟩, by omega⟩
    · rw [zupk c] at hp
      obtain ⟨a, a1, a2, a3⟩ := h5 e he hp
      exact ⟨a, a1, by omega, a3⟩
  · by_cases c : 4 * qf a + j = 4 * qf i + kk
    · rw [c, zups]; decide
    · rw [zupk c]
      refine h6 a ha j hj ?_
      rcases hc with w | ⟨w1, w2⟩
      · exact Or.inl w
      · refine Or.inr ⟨w1, ?_⟩
        subst w1
        omega
theorem zKh.step1 {i kk qd y : Nat} {qf pr im : Nat → Nat} (h : zKh n T ld i kk qd qf pr im) (hi : i < qd) (hk : kk < 4) (hy : y < n) (hl : ld y = 1) (hT : T (4 * qf i + kk) = ((y : Nat) : Int)) (hz : zied T y (zup pr (4 * qf i + kk) 1) (4 * n) = 0) : zKh n T ld i (kk + 1) (qd + 1) (zup qf qd y) (zup pr (4 * qf i + kk) 1) (zup im y 1) ∧ qd < n := by
  have h0 := h.pr0 hi hk
  have hq := (h.1 i hi).1
  have hinj := fun a b => h.inj (a := a) (b := b)
  obtain ⟨h1, h2, h3, h4, h5, h6, h7, h8⟩ := h
  have zu := fun q => zied_up (T := T) (q := q) h0 (4 * n) (by omega)
  have hne : ∀ a, a < qd → qf a ≠ y := fun a ha w => by
    have e1 := (h1 a ha).2.2
    have e2 := zu (qf a)
    rw [w, if_pos hT] at e2
    rw [w] at e1
    omega
  have him : im y = 0 := by
    apply Classical.byContradiction
    intro w
    obtain ⟨a, a1, a2⟩ := (h8 y).mp w
    exact hne a a1 a2
  have hlt := zhn_lt him n hy
  refine ⟨⟨fun a ha => ?_, fun q hq2 hl2 hz2 => ?_, fun a b hab hb => ?_, fun p hp e he hTe => ?_, fun e he hp => ?_, fun a ha j hj hc => ?_, ?_, fun q => ?_⟩, by omega⟩
  · by_cases c : a = qd
    · rw [c, zups]; exact ⟨hy, hl, hz⟩
    · rw [zupk c]
      obtain ⟨b1, b2, b3⟩ := h1 a (by omega)
      exact ⟨b1, b2, by have := zu (qf a); omega⟩
  · by_cases c : q = y
    · exact ⟨qd, by omega, by rw [zups, c]⟩
    · have e := zu q
      rw [if_neg (fun w => c (by omega))] at e
      obtain ⟨a, a1, a2⟩ := h2 q hq2 hl2 (by omega)
      exact ⟨a, by omega, by rw [zupk (by omega)]; exact a2⟩
  · rw [zupk (show a ≠ qd by omega)]
    by_cases c : b = qd
    · rw [c, zups]; exact hne a (by omega)
    · rw [zupk c]; exact h3 a b hab (by omega)
  · by_cases c : p = qd
    · rw [c, zups] at hTe
      have hpr := (zied_0 (4 * n)).mp hz e he hTe
      by_cases k : e = 4 * qf i + kk
      · exact ⟨i, by omega, by rw [zupk (by omega)]; omega⟩
      · rw [zupk k] at hpr
        obtain ⟨a, a1, a2, a3⟩ := h5 e he hpr
        exact ⟨a, by omega, by rw [zupk (by omega)]; exact a3⟩
    · rw [zupk c] at hTe
      obtain ⟨a, a1, a2⟩ := h4 p (by omega) e he hTe
      exact ⟨a, a1, by rw [zupk (by omega)]; exact a2⟩
  · by_cases c : e = 4 * qf i + kk
    · exact ⟨i, by omega, Or.inr ⟨rfl, by omega⟩, by rw [zupk (by omega)]; omega⟩
    · rw [zupk c] at hp
      obtain ⟨a, a1, a2, a3⟩ := h5 e he hp
      exact ⟨a, by omega, by omega, by rw [zupk (by omega)]; exact a3⟩
  · have hai : a < qd := by omega
    rw [zupk (show a ≠ qd by omega)]
    by_cases c : 4 * qf a + j = 4 * qf i + kk
    · rw [c, zups]; decide
    · rw [zupk c]
      refine h6 a hai j hj ?_
      rcases hc with w | ⟨w1, w2⟩
      · exact Or.inl w
      · refine Or.inr ⟨w1, ?_⟩
        subst w1
        omega
  · rw [zhn_up (t := im) (t' := zup im y 1) (j := y) him (by rw [zups]; decide) (fun k hk => zupk hk) n hy, h7]
  · by_cases c : q = y
    · rw [c, zups]
      exact ⟨fun _ => ⟨qd, by omega, zups⟩, fun _ => by decide⟩
    · rw [zupk c, h8 q]
      constructor
      · rintro ⟨a, a1, a2⟩
        exact ⟨a, by omega, by rw [zupk (by omega)]; exact a2⟩
      · rintro ⟨a, a1, a2⟩
        by_cases k : a = qd
        · rw [k, zups] at a2; exact absurd a2.symm c
        · rw [zupk k] at a2; exact ⟨a, by omega, a2⟩
theorem zKh.next {i qd : Nat} {qf pr im : Nat → Nat} (h : zKh n T ld i 4 qd qf pr im) : zKh n T ld (i + 1) 0 qd qf pr im := by
  obtain ⟨h1, h2, h3, h4, h5, h6, h7, h8⟩ := h
  refine ⟨h1, h2, h3, h4, fun e he hp => ?_, fun a ha j hj hc => h6 a ha j hj (by omega), h7, h8⟩
  obtain ⟨a, a1, a2, a3⟩ := h5 e he hp
  exact ⟨a, a1, by omega, a3⟩
theorem zKh.fin {i qd : Nat} {qf pr im : Nat → Nat} (h : zKh n T ld i 0 qd qf pr im) (hi : qd ≤ i) (hld : ∀ k, k < n → (ld k = 1 ↔ zLe n T B k)) (hl1 : ∀ k, k < n → ld k ≤ 1) : (qd < zhn ld n → ¬ zAc n T B) ∧ (zhn ld n ≤ qd → zAc n T B) := by
  have hinj := fun a b => h.inj (a := a) (b := b)
  obtain ⟨h1, h2, h3, h4, h5, h6, h7, h8⟩ := h
  constructor
  · intro hlt hac
    rw [← h7] at hlt
    obtain ⟨y, y1, y2, y3⟩ := zhn_ex n hlt
    refine zAc_in hac (fun y => y < n ∧ ld y = 1 ∧ im y = 0) (fun y hy => (hld y hy.1).mp hy.2.1) (fun y hy => ?_) y ⟨y1, by have := hl1 y y1; omega, y3⟩
    obtain ⟨w1, w2, w3⟩ := hy
    have hz : zied T y pr (4 * n) ≠ 0 := fun w => by
      obtain ⟨a, a1, a2⟩ := h2 y w1 w2 w
      exact (h8 y).mpr ⟨a, a1, a2⟩ w3
    have hex : ∃ e, e < 4 * n ∧ T e = ((y : Nat) : Int) ∧ pr e = 0 := Classical.byContradiction fun w => hz ((zied_0 (4 * n)).mpr (fun e he hT hp => w ⟨e, he, hT, hp⟩))
    obtain ⟨e, e1, e2, e3⟩ := hex
    have hx : e / 4 < n := by omega
    have hTe : T (4 * (e / 4) + e % 4) = ((y : Nat) : Int) := by rw [Nat.div_add_mod]; exact e2
    have hle := ((hld y w1).mp w2).bk hx (Nat.mod_lt _ (by decide)) hTe
    refine ⟨e / 4, e % 4, ⟨hx, (hld _ hx).mpr hle, ?_⟩, Nat.mod_lt _ (by decide), hTe⟩
    apply Classical.byContradiction
    intro w
    obtain ⟨a, a1, a2⟩ := (h8 (e / 4)).mp w
    have := h6 a a1 (e % 4) (Nat.mod_lt _ (by decide)) (Or.inl (by omega))
    rw [a2, Nat.div_add_mod] at this
    exact this e3
  · intro hle
    have hall : ∀ y, y < n → ld y = 1 → ∃ a, a < qd ∧ qf a = y := fun y hy hl => by
      apply Classical.byContradiction
      intro w
      have him : im y = 0 := Classical.byContradiction fun q => w ((h8 y).mp q)
      have := (zhn_sub (a := im) (b := ld) (fun x hx => by
        obtain ⟨a, a1, a2⟩ := (h8 x).mp hx
        rw [← a2, (h1 a a1).2.1]; decide) n).2 ⟨y, hy, by omega, him⟩
      omega
    refine ⟨fun x => @dite Nat (∃ a, a < qd ∧ qf a = x) (Classical.propDecidable _) (fun h => Classical.choose h) (fun _ => 0), fun x j y hx hj hT hy => ?_⟩
    have pos : ∀ a, a < qd → (@dite Nat (∃ b, b < qd ∧ qf b = qf a) (Classical.propDecidable _) (fun h => Classical.choose h) (fun _ => 0)) = a := fun a ha => by
      have hx : ∃ b, b < qd ∧ qf b = qf a := ⟨a, ha, rfl⟩
      rw [dif_pos hx]
      obtain ⟨g1, g2⟩ := Classical.choose_spec hx
      exact hinj _ _ g1 ha g2
    obtain ⟨p, p1, p2⟩ := hall y hy.lt ((hld y hy.lt).mpr hy)
    obtain ⟨a, a1, a2⟩ := h4 p p1 (4 * x + j) (by omega) (by rw [p2]; exact hT)
    have a2 : qf a = x := by omega
    have e1 := pos a (by omega)
    have e2 := pos p p1
    rw [a2] at e1
    rw [p2] at e2
    show (@dite Nat (∃ b, b < qd ∧ qf b = x) (Classical.propDecidable _) (fun h => Classical.choose h) (fun _ => 0)) < (@dite Nat (∃ b, b < qd ∧ qf b = y) (Classical.propDecidable _) (fun h => Classical.choose h) (fun _ => 0))
    rw [e1, e2]; exact a1
/-- those that no edge leads into -/
def zK3 (n : Nat) (T : Nat → Int) (ld : Nat → Nat) (k qd : Nat) (qf im : Nat → Nat) : Prop :=
  (∀ a, a < qd → qf a < k ∧ ld (qf a) = 1 ∧ zied T (qf a) (fun _ => 0) (4 * n) = 0) ∧
  (∀ q, q < k → ld q = 1 → zied T q (fun _ => 0) (4 * n) = 0 → ∃ a, a < qd ∧ qf a = q) ∧
  (∀ a b, a < b → b < qd → qf a ≠ qf b) ∧ zhn im n = qd ∧ ∀ q, im q ≠ 0 ↔ ∃ a, a < qd ∧ qf a = q
theorem zK3.skip {k qd : Nat} {qf im : Nat → Nat} (h : zK3 n T ld k qd qf im) (hc : ¬ (ld k = 1 ∧ zied T k (fun _ => 0) (4 * n) = 0)) : zK3 n T ld (k + 1) qd qf im := by
  obtain ⟨h1, h2, h3, h7, h8⟩ := h
  refine ⟨fun a ha => ⟨by have := (h1 a ha).1; omega, (h1 a ha).2⟩, fun q hq hl hz => ?_, h3, h7, h8⟩
  by_cases c : q = k
  · subst c; exact absurd ⟨hl, hz⟩ hc
  · exact h2 q (by omega) hl hz
theorem zK3.push {k qd : Nat} {qf im : Nat → Nat} (h : zK3 n T ld k qd qf im) (hk : k < n) (hl : ld k = 1) (hz : zied T k (fun _ => 0) (4 * n) = 0) : zK3 n T ld (k + 1) (qd + 1) (zup qf qd k) (zup im k 1) ∧ qd < n := by
  obtain ⟨h1, h2, h3, h7, h8⟩ := h
  have him : im k = 0 := by
    apply Classical.byContradiction
    intro w
    obtain ⟨a, a1, a2⟩ := (h8 k).mp w
    have := (h1 a a1).1
    omega
  have hlt := zhn_lt him n hk
  refine ⟨⟨fun a ha => ?_, fun q hq2 hl2 hz2 => ?_, fun a b hab hb => ?_, ?_, fun q => ?_⟩, by omega⟩
  · by_cases c : a = qd
    · rw [c, zups]; exact ⟨by omega, hl, hz⟩
    · rw [zupk c]
      obtain ⟨b1, b2⟩ := h1 a (by omega)
      exact ⟨by omega, b2⟩
  · by_cases c : q = k
    · exact ⟨qd, by omega, by rw [zups, c]⟩
    · obtain ⟨a, a1, a2⟩ := h2 q (by omega) hl2 hz2
      exact ⟨a, by omega, by rw [zupk (by omega)]; exact a2⟩
  · rw [zupk (show a ≠ qd by omega)]
    by_cases c : b = qd
    · rw [c, zups]; have := (h1 a (by omega)).1; omega
    · rw [zupk c]; exact h3 a b hab (by omega)
  · rw [zhn_up (t := im) (t' := zup im k 1) (j := k) him (by rw [zups]; decide) (fun k hk => zupk hk) n hk, h7]
  · by_cases c : q = k
    · rw [c, zups]
      exact ⟨fun _ => ⟨qd, by omega, zups⟩, fun _ => by decide⟩
    · rw [zupk c, h8 q]
      constructor
      · rintro ⟨a, a1, a2⟩
        exact ⟨a, by omega, by rw [zupk (by omega)]; exact a2⟩
      · rintro ⟨a, a1, a2⟩
        by_cases w : a = qd
        · rw [w, zups] at a2; exact absurd a2.symm c
        · rw [zupk w] at a2; exact ⟨a, by omega, a2⟩
theorem zK3.kh {qd : Nat} {qf im : Nat → Nat} (h : zK3 n T ld n qd qf im) : zKh n T ld 0 0 qd qf (fun _ => 0) im := by
  obtain ⟨h1, h2, h3, h7, h8⟩ := h
  refine ⟨h1, h2, h3, fun p hp e he hT => absurd rfl ((zied_0 (4 * n)).mp (h1 p hp).2.2 e he hT), fun e he hp => absurd rfl hp, fun a ha j hj hc => by omega, h7, h8⟩
end XRG

