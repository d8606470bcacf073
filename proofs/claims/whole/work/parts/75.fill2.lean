/-! ANSWERS: edges of equations, how many words of given lengths -/
def zLn (m : Nat) (S : Nat → Nat) (I : Nat → Nat → Nat) (z : Nat → Nat) : Prop := ∀ e, e < m → yof I (2 * e) z (S (2 * e)) = yof I (2 * e + 1) z (S (2 * e + 1))
def zE (m : Nat) (S : Nat → Nat) (I : Nat → Nat → Nat) (z : Nat → Nat) (i j : Nat) : Prop := ∃ e t, e < m ∧ t < yof I (2 * e) z (S (2 * e)) ∧ i = zrw I (2 * e) z (S (2 * e)) t ∧ j = zrw I (2 * e + 1) z (S (2 * e + 1)) t
def zEp (S : Nat → Nat) (I : Nat → Nat → Nat) (z : Nat → Nat) (e t i j : Nat) : Prop := ∃ e' t', (e' < e ∧ t' < yof I (2 * e') z (S (2 * e')) ∨ e' = e ∧ t' < t) ∧ i = zrw I (2 * e') z (S (2 * e')) t' ∧ j = zrw I (2 * e' + 1) z (S (2 * e' + 1)) t'
section XEE
variable {m : Nat} {S : Nat → Nat} {I : Nat → Nat → Nat} {z lo hi mk : Nat → Nat}
theorem zEp_0 {i j : Nat} : ¬ zEp S I z 0 0 i j := fun ⟨e, t, h, _⟩ => by omega
theorem zEp_s {e t i j : Nat} : zEp S I z e (t + 1) i j ↔ (zEp S I z e t i j ∨ (i = zrw I (2 * e) z (S (2 * e)) t ∧ j = zrw I (2 * e + 1) z (S (2 * e + 1)) t)) := by
  constructor
  · rintro ⟨e', t', h, h1, h2⟩
    by_cases c : e' = e ∧ t' = t
    · obtain ⟨rfl, rfl⟩ := c; exact Or.inr ⟨h1, h2⟩
    · exact Or.inl ⟨e', t', by omega, h1, h2⟩
  · rintro (⟨e', t', h, h1, h2⟩ | ⟨h1, h2⟩)
    · exact ⟨e', t', by omega, h1, h2⟩
    · exact ⟨e, t, Or.inr ⟨rfl, by omega⟩, h1, h2⟩
theorem zEp_e {e i j : Nat} : zEp S I z e (yof I (2 * e) z (S (2 * e))) i j ↔ zEp S I z (e + 1) 0 i j := by
  constructor
  · rintro ⟨e', t', h, h1, h2⟩
    refine ⟨e', t', Or.inl ?_, h1, h2⟩
    rcases h with h | ⟨rfl, h⟩
    · exact ⟨by omega, h.2⟩
    · exact ⟨by omega, h⟩
  · rintro ⟨e', t', h, h1, h2⟩
    refine ⟨e', t', ?_, h1, h2⟩
    rcases h with h | h
    · by_cases c : e' = e
      · subst c; exact Or.inr ⟨rfl, h.2⟩
      · exact Or.inl ⟨by omega, h.2⟩
    · omega
theorem zEp_m {i j : Nat} : zEp S I z m 0 i j ↔ zE m S I z i j := by
  constructor
  · rintro ⟨e', t', h, h1, h2⟩
    exact ⟨e', t', by omega, by rcases h with h | h; exact h.2; omega, h1, h2⟩
  · rintro ⟨e', t', h, h', h1, h2⟩
    exact ⟨e', t', Or.inl ⟨h, h'⟩, h1, h2⟩
theorem zEp_E {e t i j : Nat} (he : e < m) (ht : t ≤ yof I (2 * e) z (S (2 * e))) (h : zEp S I z e t i j) : zE m S I z i j := by
  obtain ⟨e', t', h, h1, h2⟩ := h
  refine ⟨e', t', by omega, ?_, h1, h2⟩
  rcases h with h | ⟨rfl, h⟩
  · exact h.2
  · omega
/-- the nodes of rows -/
def zEV (m : Nat) (S : Nat → Nat) (I : Nat → Nat → Nat) : Prop := ∀ q, q < 2 * m → S q ≤ 12 ∧ ∀ j, j < S q → zV (I q j)
theorem zE_lt (hV : zEV m S I) (hl : zLn m S I z) {i j : Nat} (h : zE m S I z i j) : i < 3 + zbg z 4 ∧ j < 3 + zbg z 4 := by
  obtain ⟨e, t, h1, h2, rfl, rfl⟩ := h
  exact ⟨zrw_lt _ (hV (2 * e) (by omega)).2 t h2, zrw_lt _ (hV (2 * e + 1) (by omega)).2 t (by rw [← hl e h1]; exact h2)⟩
theorem zQ_in {E : Nat → Nat → Prop} {M i j : Nat} (hE : ∀ i j, E i j → i < M ∧ j < M) (q : zQ E i j) (h : i ≠ j) : i < M ∧ j < M := by
  have e := q (fun x => if x < M then 0 else x + 1) (fun a b hab => by
    have := hE a b hab
    show (if a < M then 0 else a + 1) = (if b < M then 0 else b + 1)
    rw [if_pos this.1, if_pos this.2])
  have e' : (if i < M then 0 else i + 1) = (if j < M then 0 else j + 1) := e
  by_cases c1 : i < M
  · rw [if_pos c1] at e'
    by_cases c2 : j < M
    · exact ⟨c1, c2⟩
    · rw [if_neg c2] at e'; omega
  · rw [if_neg c1] at e'
    by_cases c2 : j < M
    · rw [if_pos c2] at e'; omega
    · rw [if_neg c2] at e'; omega
theorem zQ_map {E F : Nat → Nat → Prop} {h : Nat → Nat} (hh : ∀ i j, E i j → zQ F (h i) (h j)) {i j : Nat} (q : zQ E i j) : zQ F (h i) (h j) := fun g hg => q (fun x => g (h x)) (fun a b e => hh a b e g hg)
/-! the reference's order: places 0 .. 31, letters 32 .. 34 -/
def zrf (i : Nat) : Nat := if i < 3 then 32 + i else i - 3
def ztf (x : Nat) : Nat := if x < 32 then 3 + x else x - 32
theorem zrf_tf {x : Nat} (h : x < 35) : zrf (ztf x) = x := by
  unfold zrf ztf
  by_cases c : x < 32
  · rw [if_pos c, if_neg (by omega)]; omega
  · rw [if_neg c, if_pos (by omega)]; omega
theorem ztf_rf {i : Nat} (h : i < 35) : ztf (zrf i) = i := by
  unfold zrf ztf
  by_cases c : i < 3
  · rw [if_pos c, if_neg (by omega)]; omega
  · rw [if_neg c, if_pos (by omega)]; omega
theorem ztf_lt {x : Nat} (h : x < 35) : ztf x < 35 := by unfold ztf; split <;> omega
def zEr (E : Nat → Nat → Prop) (x y : Nat) : Prop := ∃ i j, E i j ∧ x = zrf i ∧ y = zrf j
theorem zQr {E : Nat → Nat → Prop} (hE : ∀ i j, E i j → i < 35 ∧ j < 35) {x y : Nat} (hx : x < 35) (hy : y < 35) : zQ (zEr E) x y ↔ zQ E (ztf x) (ztf y) := by
  constructor
  · intro q
    refine zQ_map (E := zEr E) (F := E) (h := ztf) ?_ q
    rintro a b ⟨i, j, e, rfl, rfl⟩
    have := hE i j e
    rw [ztf_rf this.1, ztf_rf this.2]
    exact .base e
  · intro q
    have := zQ_map (E := E) (F := zEr E) (h := zrf) (fun i j e => .base ⟨i, j, e, rfl, rfl⟩) q
    rw [zrf_tf hx, zrf_tf hy] at this
    exact this
def zba (z mk : Nat → Nat) (i : Nat) : Nat := if i < 3 then 2 ^ i else mk (zun z (i - 3))
theorem zba_lt {i : Nat} (hm : ∀ u, u < 4 → mk u ≤ 7) (hi : i < 3 + zbg z 4) : zba z mk i < 8 := by
  unfold zba
  by_cases c : i < 3
  · rw [if_pos c]
    rcases (show i = 0 ∨ i = 1 ∨ i = 2 by omega) with rfl | rfl | rfl <;> decide
  · rw [if_neg c]
    have := hm _ (zun_in (z := z) (p := i - 3) (by omega)).1
    omega
noncomputable def zg (m : Nat) (S : Nat → Nat) (I : Nat → Nat → Nat) (z : Nat → Nat) : Nat → Nat := zgm (zEr (zE m S I z))
noncomputable def zar (m : Nat) (S : Nat → Nat) (I : Nat → Nat → Nat) (z mk : Nat → Nat) (x : Nat) : Nat := zan (zE m S I z) (zba z mk) (ztf x)
def zpw (g a : Nat → Nat) : Nat → Nat
  | 0 => 1
  | x + 1 => zpw g a x * (if g x = x then zpop (a x) else 1)
def zCf (g : Nat → Nat) : Prop := ∃ x, (x = 33 ∨ x = 34) ∧ g x ≠ x ∧ 32 ≤ g x
def zBz (lo hi us z : Nat → Nat) : Prop := ∀ u, u < 4 → lo u ≤ z u ∧ z u ≤ hi u ∧ (us u = 0 → z u = 0)
noncomputable def zWy (m : Nat) (S : Nat → Nat) (I : Nat → Nat → Nat) (lo hi mk z : Nat → Nat) : Nat := @ite Nat (zBz lo hi (zub S I (2 * m)) z ∧ zLn m S I z ∧ ¬ zCf (zg m S I z)) (Classical.propDecidable _) (zpw (zg m S I z) (zar m S I z mk) (zbg z 4)) 0
theorem zpop_3 : ∀ a, a < 8 → zpop a ≤ 3 := by decide
theorem zpop_0 : zpop 0 = 0 := by decide
theorem zpop_1 : ∀ a, a < 8 → a ≠ 0 → (∃ l, l < 3 ∧ ∀ c, c < 3 → zbt a c = 1 → c = l) → zpop a = 1 := by decide
theorem zpop_nz : ∀ a, a < 8 → a ≠ 0 → 1 ≤ zpop a := by decide
theorem zpw_le {g a : Nat → Nat} (ha : ∀ x, a x < 8) : ∀ n, zpw g a n ≤ 3 ^ n
  | 0 => Nat.le_refl _
  | n + 1 => by
    have ih := zpw_le ha n (g := g)
    rw [zpw, Nat.pow_succ]
    have h1 := zpop_3 _ (ha n)
    refine Nat.mul_le_mul ih ?_
    split <;> omega
theorem zpw_z {g a : Nat → Nat} {x : Nat} (h1 : g x = x) (h2 : a x = 0) : ∀ n, x < n → zpw g a n = 0
  | 0, h => absurd h (Nat.not_lt_zero x)
  | n + 1, h => by
    rw [zpw]
    by_cases c : x = n
    · subst c; rw [if_pos h1, h2, zpop_0, Nat.mul_zero]
    · rw [zpw_z h1 h2 n (by omega), Nat.zero_mul]
theorem zE35 (hV : zEV m S I) (hl : zLn m S I z) (hz : ∀ u, u < 4 → z u ≤ 8) : ∀ i j, zE m S I z i j → i < 35 ∧ j < 35 := fun i j e => by
  have := zE_lt hV hl e
  have := zbg_4 hz 4 (Nat.le_refl _)
  omega
/-- words of these lengths: the classes that are dead -/
theorem zW_dead (hV : zEV m S I) (hl : zLn m S I z) (hz : ∀ u, u < 4 → z u ≤ 8) (hd : zDd (zE m S I z) (zba z mk)) : zWy m S I lo hi mk z = 0 := by
  have h35 := zE35 hV hl hz
  have hN := zbg_4 hz 4 (Nat.le_refl _)
  obtain ⟨i, j, hne, hq, h0⟩ := hd
  have hin := zQ_in (fun i j e => zE_lt hV hl e) hq hne
  unfold zWy
  by_cases c : zBz lo hi (zub S I (2 * m)) z ∧ zLn m S I z ∧ ¬ zCf (zg m S I z)
  · rw [if_pos c]
    -- a place of the class
    have place : ∀ k, 3 ≤ k → k < 3 + zbg z 4 → zQ (zE m S I z) i k → zpw (zg m S I z) (zar m S I z mk) (zbg z 4) = 0 := fun k k1 k2 kq => by
      obtain ⟨g1, g2, g3⟩ := zgm_sp (zEr (zE m S I z)) (k - 3)
      have hgi : zg m S I z (zg m S I z (k - 3)) = zg m S I z (k - 3) := (zgm_mn _).idem _
      refine zpw_z (x := zg m S I z (k - 3)) hgi ?_ _ (by have : zg m S I z (k - 3) ≤ k - 3 := g2; omega)
      show zan _ _ (ztf (zg m S I z (k - 3))) = 0
      have hlt : zg m S I z (k - 3) ≤ k - 3 := g2
      have q2 := (zQr h35 (show k - 3 < 35 by omega) (show zg m S I z (k - 3) < 35 by omega)).mp g1
      have e3 : ztf (k - 3) = k := by unfold ztf; rw [if_pos (by omega)]; omega
      rw [e3] at q2
      rw [← zan_eqv (kq.trans q2)]; exact h0
    by_cases ci : 3 ≤ i
    · exact place i ci hin.1 (.refl i)
    · by_cases cj : 3 ≤ j
      · exact place j cj hin.2 hq
      · -- two letters
        obtain ⟨a, b, hab, hb3, hqab, hib⟩ : ∃ a b, a < b ∧ b < 3 ∧ zQ (zE m S I z) a b ∧ zQ (zE m S I z) i b := by
          rcases Nat.lt_or_gt_of_ne hne with q | q
          · exact ⟨i, j, q, by omega, hq, hq⟩
          · exact ⟨j, i, q, by omega, hq.symm, .refl i⟩
        have ea : ztf (32 + a) = a := by unfold ztf; rw [if_neg (by omega)]; omega
        have eb : ztf (32 + b) = b := by unfold ztf; rw [if_neg (by omega)]; omega
        have hqr : zQ (zEr (zE m S I z)) (32 + b) (32 + a) := (zQr h35 (by omega) (by omega)).mpr (by rw [ea, eb]; exact hqab.symm)
        obtain ⟨g1, g2, g3⟩ := zgm_sp (zEr (zE m S I z)) (32 + b)
        have hle : zg m S I z (32 + b) ≤ 32 + a := g3 _ hqr
        by_cases w : 32 ≤ zg m S I z (32 + b)
        · exact absurd ⟨32 + b, by omega, by omega, w⟩ c.2.2
        · have q2 := (zQr h35 (show 32 + b < 35 by omega) (show zg m S I z (32 + b) < 35 by omega)).mp g1
          have e3 : ztf (zg m S I z (32 + b)) = 3 + zg m S I z (32 + b) := by unfold ztf; rw [if_pos (by omega)]
          have e4 : ztf (zgm (zEr (zE m S I z)) (32 + b)) = 3 + zg m S I z (32 + b) := e3
          rw [e3, eb] at q2
          have hin2 := zQ_in (fun i j e => zE_lt hV hl e) q2 (by omega)
          exact place (3 + zg m S I z (32 + b)) (by omega) hin2.2 (hib.trans q2)
  · rw [if_neg c]
def zcw (f mk : Nat → Nat) : Nat → Nat
  | 0 => 1
  | p + 1 => zcw f mk p * (if f (3 + p) = 3 + p then zpop (mk (3 + p)) else 1)
/-- .. and those that are not -/
theorem zW_live (hV : zEV m S I) (hl : zLn m S I z) (hz : ∀ u, u < 4 → z u ≤ 8) (hd : ¬ zDd (zE m S I z) (zba z mk)) : ¬ zCf (zg m S I z) ∧ (∀ x, x < zbg z 4 → zg m S I z x = x → (zgm (zE m S I z) (3 + x) = 3 + x ∨ (zgm (zE m S I z) (3 + x) < 3 ∧ zar m S I z mk x = 2 ^ zgm (zE m S I z) (3 + x)))) ∧ (∀ x, x < zbg z 4 → zgm (zE m S I z) (3 + x) = 3 + x → zg m S I z x = x) := by
  have h35 := zE35 hV hl hz
  have hN := zbg_4 hz 4 (Nat.le_refl _)
  have b3 : ∀ l, l < 3 → zba z mk l = 2 ^ l := fun l h => by unfold zba; rw [if_pos h]
  have bt : ∀ l, l < 3 → ∀ c, c < 3 → (zbt (2 ^ l) c = 1 ↔ c = l) := by decide
  refine ⟨?_, fun x hx hg => ?_, fun x hx hf => ?_⟩
  · rintro ⟨x, hx, h1, h2⟩
    obtain ⟨g1, g2, g3⟩ := zgm_sp (zEr (zE m S I z)) x
    have h1' : zgm (zEr (zE m S I z)) x ≠ x := h1
    have h2' : 32 ≤ zgm (zEr (zE m S I z)) x := h2
    have q2 := (zQr h35 (show x < 35 by omega) (show zgm (zEr (zE m S I z)) x < 35 by omega)).mp g1
    have e1 : ztf x = x - 32 := by unfold ztf; rw [if_neg (by omega)]
    have e2 : ztf (zgm (zEr (zE m S I z)) x) = zgm (zEr (zE m S I z)) x - 32 := by unfold ztf; rw [if_neg (by omega)]
    rw [e1, e2] at q2
    refine hd ⟨x - 32, zgm (zEr (zE m S I z)) x - 32, by omega, q2, ?_⟩
    apply Classical.byContradiction
    intro w
    obtain ⟨c, hc, hb⟩ := (zbt_nz _ (zan_lt _ _ _)).mp w
    have hall := (zan_iff hc).mp hb
    have k1 := hall _ (.refl _)
    have k2 := hall _ q2
    rw [b3 _ (by omega), bt _ (by omega) c hc] at k1
    rw [b3 _ (by omega), bt _ (by omega) c hc] at k2
    omega
  · have ex : ztf x = 3 + x := by unfold ztf; rw [if_pos (by omega)]
    obtain ⟨f1, f2, f3⟩ := zgm_sp (zE m S I z) (3 + x)
    rcases Nat.lt_or_ge (zgm (zE m S I z) (3 + x)) 3 with c | c
    · right
      refine ⟨c, ?_⟩
      have hne : zan (zE m S I z) (zba z mk) (3 + x) ≠ 0 := fun w => hd ⟨3 + x, _, by omega, f1, w⟩
      unfold zar
      rw [ex]
      refine zbt_eq 3 _ _ (zan_lt _ _ _) ?_ (fun d hd' => ?_)
      · rcases (show zgm (zE m S I z) (3 + x) = 0 ∨ zgm (zE m S I z) (3 + x) = 1 ∨ zgm (zE m S I z) (3 + x) = 2 by omega) with e | e | e <;> rw [e] <;> decide
      · have only : ∀ d, d < 3 → zbt (zan (zE m S I z) (zba z mk) (3 + x)) d = 1 → d = zgm (zE m S I z) (3 + x) := fun d hd' w => by
          have k := (zan_iff hd').mp w _ f1
          rw [b3 _ c, bt _ c d hd'] at k; exact k
        obtain ⟨c0, hc0, hb0⟩ := (zbt_nz _ (zan_lt _ _ _)).mp hne
        have e0 := only c0 hc0 hb0
        have b2 := bt _ c d hd'
        by_cases e : d = zgm (zE m S I z) (3 + x)
        · rw [b2.mpr e, e, ← e0]; exact hb0
        · rcases zbt_01 (zan (zE m S I z) (zba z mk) (3 + x)) d with q | q
          · rcases zbt_01 (2 ^ zgm (zE m S I z) (3 + x)) d with w | w
            · rw [q, w]
            · exact absurd (b2.mp w) e
          · exact absurd (only d hd' q) e
    · left
      -- the least node is a place: it is x
      have q2 := (zQr h35 (show x < 35 by omega) (show zgm (zE m S I z) (3 + x) - 3 < 35 by omega)).mpr (by
        have e3 : ztf (zgm (zE m S I z) (3 + x) - 3) = zgm (zE m S I z) (3 + x) := by unfold ztf; rw [if_pos (by omega)]; omega
        rw [ex, e3]; exact f1)
      have h3 := (zgm_sp (zEr (zE m S I z)) x).2.2 _ q2
      have hg' : zgm (zEr (zE m S I z)) x = x := hg
      omega
  · have ex : ztf x = 3 + x := by unfold ztf; rw [if_pos (by omega)]
    obtain ⟨g1, g2, g3⟩ := zgm_sp (zEr (zE m S I z)) x
    have q2 := (zQr h35 (show x < 35 by omega) (show zgm (zEr (zE m S I z)) x < 35 by omega)).mp g1
    have e3 : ztf (zgm (zEr (zE m S I z)) x) = 3 + zgm (zEr (zE m S I z)) x := by unfold ztf; rw [if_pos (by omega)]
    rw [ex, e3] at q2
    have := (zgm_sp (zE m S I z) (3 + x)).2.2 _ q2
    show zgm (zEr (zE m S I z)) x = x
    omega
theorem zcw_eq (hV : zEV m S I) (hl : zLn m S I z) (hz : ∀ u, u < 4 → z u ≤ 8) (hd : ¬ zDd (zE m S I z) (zba z mk)) : ∀ n, n ≤ zbg z 4 → zpw (zg m S I z) (zar m S I z mk) n = zcw (zgm (zE m S I z)) (zan (zE m S I z) (zba z mk)) n
  | 0, _ => rfl
  | n + 1, hn => by
    obtain ⟨_, h1, h2⟩ := zW_live hV hl hz hd
    have hN := zbg_4 hz 4 (Nat.le_refl _)
    have ex : zar m S I z mk n = zan (zE m S I z) (zba z mk) (3 + n) := by unfold zar ztf; rw [if_pos (by omega)]
    have p2 : ∀ l, l < 3 → zpop (2 ^ l) = 1 := by decide
    rw [zpw, zcw, zcw_eq hV hl hz hd n (by omega)]
    congr 1
    by_cases c : zgm (zE m S I z) (3 + n) = 3 + n
    · rw [if_pos c, if_pos (h2 n (by omega) c), ex]
    · rw [if_neg c]
      by_cases cg : zg m S I z n = n
      · rw [if_pos cg]
        obtain ⟨h3, h4⟩ := (h1 n (by omega) cg).resolve_left c
        rw [h4]; exact p2 _ h3
      · rw [if_neg cg]
theorem zW_eq (hV : zEV m S I) (hl : zLn m S I z) (hz : ∀ u, u < 4 → z u ≤ 8) (hB : zBz lo hi (zub S I (2 * m)) z) (hd : ¬ zDd (zE m S I z) (zba z mk)) : zWy m S I lo hi mk z = zcw (zgm (zE m S I z)) (zan (zE m S I z) (zba z mk)) (zbg z 4) := by
  unfold zWy
  rw [if_pos ⟨hB, hl, (zW_live hV hl hz hd).1⟩]
  exact zcw_eq hV hl hz hd _ (Nat.le_refl _)
end XEE

