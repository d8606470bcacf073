/-! ANSWERS: words of given lengths, their places in classes -/
def zbg (z : Nat → Nat) : Nat → Nat
  | 0 => 0
  | u + 1 => zbg z u + z u
theorem zbg_le {z : Nat → Nat} {u v : Nat} (h : u ≤ v) : zbg z u ≤ zbg z v := by
  induction v with
  | zero => have : u = 0 := by omega
            subst this; exact Nat.le_refl _
  | succ v ih =>
    by_cases c : u = v + 1
    · subst c; exact Nat.le_refl _
    · have := ih (by omega); rw [zbg]; omega
theorem zbg_4 {z : Nat → Nat} (hz : ∀ u, u < 4 → z u ≤ 8) : ∀ u, u ≤ 4 → zbg z u ≤ 8 * u
  | 0, _ => Nat.le_refl _
  | u + 1, h => by have := zbg_4 hz u (by omega); have := hz u (by omega); rw [zbg]; omega
def zun (z : Nat → Nat) (p : Nat) : Nat := if p < zbg z 1 then 0 else if p < zbg z 2 then 1 else if p < zbg z 3 then 2 else 3
theorem zun_at {z : Nat → Nat} {u k : Nat} (hu : u < 4) (hk : k < z u) : zun z (zbg z u + k) = u := by
  have h1 : zbg z 1 = zbg z 0 + z 0 := rfl
  have h2 : zbg z 2 = zbg z 1 + z 1 := rfl
  have h3 : zbg z 3 = zbg z 2 + z 2 := rfl
  have h0 : zbg z 0 = 0 := rfl
  unfold zun
  rcases (show u = 0 ∨ u = 1 ∨ u = 2 ∨ u = 3 by omega) with rfl | rfl | rfl | rfl
  · rw [if_pos (by omega)]
  · rw [if_neg (by omega), if_pos (by omega)]
  · rw [if_neg (by omega), if_neg (by omega), if_pos (by omega)]
  · rw [if_neg (by omega), if_neg (by omega), if_neg (by omega)]
theorem zun_in {z : Nat → Nat} {p : Nat} (h : p < zbg z 4) : zun z p < 4 ∧ zbg z (zun z p) ≤ p ∧ p < zbg z (zun z p) + z (zun z p) := by
  have h1 : zbg z 1 = zbg z 0 + z 0 := rfl
  have h2 : zbg z 2 = zbg z 1 + z 1 := rfl
  have h3 : zbg z 3 = zbg z 2 + z 2 := rfl
  have h4 : zbg z 4 = zbg z 3 + z 3 := rfl
  have h0 : zbg z 0 = 0 := rfl
  unfold zun
  by_cases c1 : p < zbg z 1
  · rw [if_pos c1]; omega
  · rw [if_neg c1]
    by_cases c2 : p < zbg z 2
    · rw [if_pos c2]; omega
    · rw [if_neg c2]
      by_cases c3 : p < zbg z 3
      · rw [if_pos c3]; omega
      · rw [if_neg c3]; omega
/-- a side as a row of nodes: letters 0 .. 2, then the places -/
def zrw (I : Nat → Nat → Nat) (q : Nat) (z : Nat → Nat) : Nat → Nat → Nat
  | 0 => fun _ => 0
  | k + 1 => fun t => if t < yof I q z k then zrw I q z k t else if I q k < 4 then I q k else 3 + zbg z (I q k - 4) + (t - yof I q z k)
theorem zrw_lt {I : Nat → Nat → Nat} {q : Nat} {z : Nat → Nat} : ∀ n, (∀ j, j < n → zV (I q j)) → ∀ t, t < yof I q z n → zrw I q z n t < 3 + zbg z 4
  | 0, _, t, ht => absurd ht (Nat.not_lt_zero t)
  | n + 1, h, t, ht => by
    have e : yof I q z (n + 1) = yof I q z n + (if I q n < 4 then 1 else z (I q n - 4)) := rfl
    obtain ⟨v1, v2⟩ := h n (by omega)
    show (if t < yof I q z n then zrw I q z n t else if I q n < 4 then I q n else 3 + zbg z (I q n - 4) + (t - yof I q z n)) < _
    by_cases c : t < yof I q z n
    · rw [if_pos c]; exact zrw_lt n (fun j hj => h j (by omega)) t c
    · rw [if_neg c]
      by_cases d : I q n < 4
      · rw [if_pos d]; omega
      · rw [if_neg d]
        rw [if_neg d] at e
        have h1 : zbg z (I q n - 4 + 1) = zbg z (I q n - 4) + z (I q n - 4) := rfl
        have h2 := zbg_le (z := z) (show I q n - 4 + 1 ≤ 4 by omega)
        omega
/-! least members, as functions -/
noncomputable def zmi (P : Nat → Prop) : Nat → Nat → Nat
  | 0, p => p
  | k + 1, p => @ite Nat (P p) (Classical.propDecidable _) p (zmi P k (p + 1))
theorem zmi_sp {P : Nat → Prop} : ∀ k p, P (p + k) → P (zmi P k p) ∧ zmi P k p ≤ p + k ∧ ∀ j, p ≤ j → P j → zmi P k p ≤ j
  | 0, p, h => ⟨h, Nat.le_refl _, fun j hj _ => hj⟩
  | k + 1, p, h => by
    by_cases c : P p
    · rw [zmi, if_pos c]; exact ⟨c, by omega, fun j hj _ => hj⟩
    · rw [zmi, if_neg c]
      obtain ⟨h1, h2, h3⟩ := zmi_sp (P := P) k (p + 1) (by rw [show p + 1 + k = p + (k + 1) by omega]; exact h)
      refine ⟨h1, by omega, fun j hj hP => h3 j ?_ hP⟩
      by_cases e : j = p
      · subst e; exact absurd hP c
      · omega
noncomputable def zgm (E : Nat → Nat → Prop) (i : Nat) : Nat := zmi (fun j => zQ E i j) i 0
theorem zgm_sp (E : Nat → Nat → Prop) (i : Nat) : zQ E i (zgm E i) ∧ zgm E i ≤ i ∧ ∀ j, zQ E i j → zgm E i ≤ j := by
  obtain ⟨h1, h2, h3⟩ := zmi_sp (P := fun j => zQ E i j) i 0 (by rw [Nat.zero_add]; exact .refl i)
  exact ⟨h1, by unfold zgm; omega, fun j hq => h3 j (Nat.zero_le _) hq⟩
theorem zgm_mn (E : Nat → Nat → Prop) : zMn E (zgm E) := fun i => by
  obtain ⟨h1, h2, h3⟩ := zgm_sp E i
  refine ⟨h2, h1, fun j e => ?_⟩
  obtain ⟨k1, k2, k3⟩ := zgm_sp E j
  have a := h3 (zgm E j) ((zQ.base e).trans k1)
  have b := k3 (zgm E i) ((zQ.base e).symm.trans h1)
  omega
theorem zMn.iff {E : Nat → Nat → Prop} {f : Nat → Nat} (h : zMn E f) (i j : Nat) : zQ E i j ↔ f i = f j :=
  ⟨fun q => h.eqv q, fun e => ((h i).2.1.trans (by rw [e]; exact .refl _)).trans (h j).2.1.symm⟩
theorem zMn.gm {E : Nat → Nat → Prop} {f : Nat → Nat} (h : zMn E f) (i : Nat) : f i = zgm E i := h.uniq (zgm_mn E) (fun _ _ e => .base e) (fun _ _ e => .base e) i
/-! letters left to a class -/
noncomputable def zan1 (E : Nat → Nat → Prop) (base : Nat → Nat) (i c : Nat) : Nat := @ite Nat (∀ j, zQ E i j → zbt (base j) c = 1) (Classical.propDecidable _) 1 0
noncomputable def zan (E : Nat → Nat → Prop) (base : Nat → Nat) (i : Nat) : Nat := zan1 E base i 0 + 2 * zan1 E base i 1 + 4 * zan1 E base i 2
theorem zan1_01 (E : Nat → Nat → Prop) (base : Nat → Nat) (i c : Nat) : zan1 E base i c = 0 ∨ zan1 E base i c = 1 := by
  unfold zan1
  by_cases h : ∀ j, zQ E i j → zbt (base j) c = 1
  · rw [if_pos h]; exact Or.inr rfl
  · rw [if_neg h]; exact Or.inl rfl
theorem zan1_iff {E : Nat → Nat → Prop} {base : Nat → Nat} {i c : Nat} : zan1 E base i c = 1 ↔ ∀ j, zQ E i j → zbt (base j) c = 1 := by
  unfold zan1
  by_cases h : ∀ j, zQ E i j → zbt (base j) c = 1
  · rw [if_pos h]; exact ⟨fun _ => h, fun _ => rfl⟩
  · rw [if_neg h]; exact ⟨fun w => absurd w (by decide), fun w => absurd w h⟩
theorem zan_lt (E : Nat → Nat → Prop) (base : Nat → Nat) (i : Nat) : zan E base i < 8 := by
  have a := zan1_01 E base i 0
  have b := zan1_01 E base i 1
  have c := zan1_01 E base i 2
  unfold zan; omega
theorem zan_bt {E : Nat → Nat → Prop} {base : Nat → Nat} {i c : Nat} (hc : c < 3) : zbt (zan E base i) c = zan1 E base i c := by
  have a := zan1_01 E base i 0
  have b := zan1_01 E base i 1
  have d := zan1_01 E base i 2
  unfold zbt zan
  rcases (show c = 0 ∨ c = 1 ∨ c = 2 by omega) with rfl | rfl | rfl
  · rw [Nat.pow_zero, Nat.div_one]; omega
  · rw [Nat.pow_one]; omega
  · rw [show (2 : Nat) ^ 2 = 4 from rfl]; omega
theorem zan_iff {E : Nat → Nat → Prop} {base : Nat → Nat} {i c : Nat} (hc : c < 3) : zbt (zan E base i) c = 1 ↔ ∀ j, zQ E i j → zbt (base j) c = 1 := by rw [zan_bt hc, zan1_iff]
theorem zan_un {E : Nat → Nat → Prop} {base : Nat → Nat} {i a : Nat} (ha : a < 8) (h : ∀ c, c < 3 → (zbt a c = 1 ↔ ∀ j, zQ E i j → zbt (base j) c = 1)) : a = zan E base i := by
  refine zbt_eq 3 a _ ha (zan_lt E base i) (fun c hc => ?_)
  have h1 := h c hc
  have h2 := zan_iff (E := E) (base := base) (i := i) hc
  rcases zbt_01 a c with q | q <;> rcases zbt_01 (zan E base i) c with w | w
  · omega
  · have := h1.mpr (h2.mp w); omega
  · have := h2.mpr (h1.mp q); omega
  · omega
theorem zan_eqv {E : Nat → Nat → Prop} {base : Nat → Nat} {i j : Nat} (q : zQ E i j) : zan E base i = zan E base j :=
  zan_un (zan_lt E base i) (fun c hc => by
    rw [zan_iff hc]
    exact ⟨fun w k hk => w k (q.trans hk), fun w k hk => w k (q.symm.trans hk)⟩)
theorem zbt_and : ∀ a, a < 8 → ∀ b, b < 8 → (a &&& b < 8 ∧ ∀ c, c < 3 → (zbt (a &&& b) c = 1 ↔ zbt a c = 1 ∧ zbt b c = 1)) := by decide
theorem zbt_0 (c : Nat) : zbt 0 c = 0 := by unfold zbt; simp
theorem zbt_nz : ∀ a, a < 8 → (a ≠ 0 ↔ ∃ c, c < 3 ∧ zbt a c = 1) := by decide
/-! joins, with what is left -/
def zDd (E : Nat → Nat → Prop) (base : Nat → Nat) : Prop := ∃ i j, i ≠ j ∧ zQ E i j ∧ zan E base i = 0
theorem zan_mono {E F : Nat → Nat → Prop} {base : Nat → Nat} {i : Nat} (h : ∀ i j, E i j → zQ F i j) (h0 : zan E base i = 0) : zan F base i = 0 := by
  apply Classical.byContradiction
  intro w
  obtain ⟨c, hc, hb⟩ := (zbt_nz _ (zan_lt F base i)).mp w
  have := (zan_iff (E := E) (base := base) (i := i) hc).mpr (fun j q => (zan_iff hc).mp hb j (zQ.mono h q))
  rw [h0, zbt_0] at this
  exact absurd this (by decide)
theorem zDd.mono {E F : Nat → Nat → Prop} {base : Nat → Nat} (h : ∀ i j, E i j → zQ F i j) (d : zDd E base) : zDd F base := by
  obtain ⟨i, j, h1, h2, h3⟩ := d
  exact ⟨i, j, h1, zQ.mono h h2, zan_mono h h3⟩
/-- the class's classes: least members, letters left of leaders, none dead -/
def zAJ (nn : Nat) (E : Nat → Nat → Prop) (base f mk : Nat → Nat) : Prop := zMn E f ∧ (∀ i, i < nn → f i = i → mk i = zan E base i) ∧ ∀ i, f i ≠ i → zan E base i ≠ 0
theorem zAJ.cg {nn : Nat} {E F : Nat → Nat → Prop} {base f mk : Nat → Nat} (h : zAJ nn E base f mk) (h1 : ∀ i j, E i j → zQ F i j) (h2 : ∀ i j, F i j → zQ E i j) : zAJ nn F base f mk := by
  have hq : ∀ i j, zQ E i j ↔ zQ F i j := fun i j => ⟨zQ.mono h1, zQ.mono h2⟩
  have ha : ∀ i, zan E base i = zan F base i := fun i => zan_un (zan_lt E base i) (fun c hc => by
    rw [zan_iff hc]
    exact ⟨fun w k hk => w k ((hq i k).mpr hk), fun w k hk => w k ((hq i k).mp hk)⟩)
  refine ⟨fun i => ⟨(h.1 i).1, (hq _ _).mp (h.1 i).2.1, fun j e => ?_⟩, fun i hi e => by rw [h.2.1 i hi e, ha], fun i e => by rw [← ha]; exact h.2.2 i e⟩
  exact (h.1.iff i j).mp (h2 i j e)
theorem zAJ.join {nn a b : Nat} {E : Nat → Nat → Prop} {base f mk : Nat → Nat} (h : zAJ nn E base f mk) (ha : a < nn) (hb : b < nn) (hx : f a = f b ∨ mk (min (f a) (f b)) &&& mk (max (f a) (f b)) ≠ 0) : zAJ nn (fun i j => E i j ∨ (i = a ∧ j = b)) base (zjf f a b) (zjm f mk a b) := by
  obtain ⟨h1, h2, h3⟩ := h
  have hM := h1.join a b
  by_cases c : f a = f b
  · have hzj : ∀ i, zjf f a b i = f i := fun i => by
      unfold zjf
      rw [c, Nat.max_self, Nat.min_self]
      by_cases e : f i = f b
      · rw [if_pos e, e]
      · rw [if_neg e]
    have hqq : ∀ i j, (E i j ∨ (i = a ∧ j = b)) → zQ E i j := fun i j e => by
      rcases e with e | ⟨rfl, rfl⟩
      · exact .base e
      · exact (h1.iff _ _).mpr c
    have he : zAJ nn E base (zjf f a b) (zjm f mk a b) := by
      refine ⟨fun i => ?_, fun i hi e => ?_, fun i e => ?_⟩
      · rw [hzj i]
        exact ⟨(h1 i).1, (h1 i).2.1, fun j e => by rw [hzj j]; exact (h1 i).2.2 j e⟩
      · rw [hzj i] at e; unfold zjm; rw [if_pos c]; exact h2 i hi e
      · rw [hzj i] at e; exact h3 i e
    exact he.cg (fun _ _ e => .base (Or.inl e)) hqq
  · obtain ⟨K, hK⟩ : ∃ K, K = min (f a) (f b) := ⟨_, rfl⟩
    obtain ⟨M, hMx⟩ : ∃ g, g = max (f a) (f b) := ⟨_, rfl⟩
    have hx := hx.resolve_left c
    rw [← hK, ← hMx] at hx
    have hfK : f K = K := by
      rcases Nat.le_total (f a) (f b) with q | q
      · rw [show K = f a by omega]; exact h1.idem a
      · rw [show K = f b by omega]; exact h1.idem b
    have hfM : f M = M := by
      rcases Nat.le_total (f a) (f b) with q | q
      · rw [show M = f b by omega]; exact h1.idem b
      · rw [show M = f a by omega]; exact h1.idem a
    have hKn : K < nn := by have := (h1 a).1; omega
    have hMn : M < nn := by have := (h1 a).1; have := (h1 b).1; omega
    have hKM : K ≠ M := by omega
    have hz : ∀ i, zjf f a b i = if f i = M then K else f i := fun i => by unfold zjf; rw [← hK, ← hMx]
    have hzm : zjm f mk a b = zup mk K (mk K &&& mk M) := by unfold zjm; rw [if_neg c, ← hK, ← hMx]
    have eK := h2 K hKn hfK
    have eM := h2 M hMn hfM
    have lK := zan_lt E base K
    have lM := zan_lt E base M
    rw [eK, eM] at hx
    obtain ⟨n1, n2⟩ := zbt_and _ lK _ lM
    have clK : ∀ i, zjf f a b i = K ↔ (f i = K ∨ f i = M) := fun i => by
      rw [hz i]
      by_cases e : f i = M
      · rw [if_pos e]; exact ⟨fun _ => Or.inr e, fun _ => rfl⟩
      · rw [if_neg e]; exact ⟨Or.inl, fun w => w.resolve_right e⟩
    have andK : zan (fun i j => E i j ∨ (i = a ∧ j = b)) base K = zan E base K &&& zan E base M := by
      refine (zan_un n1 (fun d hd => ?_)).symm
      rw [n2 d hd, zan_iff hd, zan_iff hd]
      have hKK : zjf f a b K = K := (clK K).mpr (Or.inl hfK)
      constructor
      · rintro ⟨w1, w2⟩ j hj
        have e := (hM.iff K j).mp hj
        rw [hKK] at e
        rcases (clK j).mp e.symm with e2 | e2
        · exact w1 j ((h1.iff K j).mpr (by rw [hfK, e2]))
        · exact w2 j ((h1.iff M j).mpr (by rw [hfM, e2]))
      · intro w
        refine ⟨fun j hj => w j ((hM.iff K j).mpr ?_), fun j hj => w j ((hM.iff K j).mpr ?_)⟩
        · rw [hKK]; have e := (h1.iff K j).mp hj; exact ((clK j).mpr (Or.inl (by omega))).symm
        · rw [hKK]; have e := (h1.iff M j).mp hj; exact ((clK j).mpr (Or.inr (by omega))).symm
    have other : ∀ i, f i ≠ K → f i ≠ M → zan (fun i j => E i j ∨ (i = a ∧ j = b)) base i = zan E base i := fun i w1 w2 => by
      refine (zan_un (zan_lt E base i) (fun d hd => ?_)).symm
      rw [zan_iff hd]
      have hq : ∀ j, zQ E i j ↔ zQ (fun i j => E i j ∨ (i = a ∧ j = b)) i j := fun j => by
        rw [h1.iff, hM.iff, hz i, hz j, if_neg w2]
        by_cases e : f j = M
        · rw [if_pos e]; constructor <;> intro <;> omega
        · rw [if_neg e]
      exact ⟨fun w j hj => w j ((hq j).mpr hj), fun w j hj => w j ((hq j).mp hj)⟩
    have inK : ∀ i, (f i = K ∨ f i = M) → zan (fun i j => E i j ∨ (i = a ∧ j = b)) base i = zan E base K &&& zan E base M := fun i w => by
      rw [← andK]
      exact zan_eqv ((hM.iff i K).mpr (by rw [(clK i).mpr w, (clK K).mpr (Or.inl hfK)]))
    refine ⟨hM, fun i hi e => ?_, fun i e => ?_⟩
    · rw [hzm]
      by_cases ci : i = K
      · subst ci; rw [zup_s, eK, eM, andK]
      · rw [zup_n ci]
        rw [hz i] at e
        by_cases e2 : f i = M
        · rw [if_pos e2] at e; omega
        · rw [if_neg e2] at e
          rw [other i (by omega) e2]; exact h2 i hi e
    · by_cases w : f i = K ∨ f i = M
      · rw [inK i w]; exact hx
      · rw [other i (fun q => w (Or.inl q)) (fun q => w (Or.inr q))]
        rw [hz i, if_neg (fun q => w (Or.inr q))] at e
        exact h3 i e
theorem zAJ.dead {nn a b : Nat} {E : Nat → Nat → Prop} {base f mk : Nat → Nat} (h : zAJ nn E base f mk) (ha : a < nn) (hb : b < nn) (hx : ¬ (f a = f b ∨ mk (min (f a) (f b)) &&& mk (max (f a) (f b)) ≠ 0)) : zDd (fun i j => E i j ∨ (i = a ∧ j = b)) base := by
  obtain ⟨h1, h2, h3⟩ := h
  have c : f a ≠ f b := fun e => hx (Or.inl e)
  have h0 : mk (min (f a) (f b)) &&& mk (max (f a) (f b)) = 0 := Classical.byContradiction fun e => hx (Or.inr e)
  have hab : zQ (fun i j => E i j ∨ (i = a ∧ j = b)) a b := .base (Or.inr ⟨rfl, rfl⟩)
  have up : ∀ {i j : Nat}, zQ E i j → zQ (fun i j => E i j ∨ (i = a ∧ j = b)) i j := fun q => zQ.mono (fun i j e => .base (Or.inl e)) q
  refine ⟨a, b, fun e => c (by rw [e]), hab, ?_⟩
  apply Classical.byContradiction
  intro w
  obtain ⟨d, hd, hb'⟩ := (zbt_nz _ (zan_lt _ base a)).mp w
  have hall := (zan_iff hd).mp hb'
  have e1 := h2 (f a) (by have := (h1 a).1; omega) (h1.idem a)
  have e2 := h2 (f b) (by have := (h1 b).1; omega) (h1.idem b)
  have k1 : zbt (mk (f a)) d = 1 := by
    rw [e1]; exact (zan_iff hd).mpr (fun j q => hall j ((up (h1 a).2.1).trans (up q)))
  have k2 : zbt (mk (f b)) d = 1 := by
    rw [e2]; exact (zan_iff hd).mpr (fun j q => hall j (hab.trans ((up (h1 b).2.1).trans (up q))))
  have l1 : mk (f a) < 8 := by rw [e1]; exact zan_lt _ _ _
  have l2 : mk (f b) < 8 := by rw [e2]; exact zan_lt _ _ _
  rcases Nat.le_total (f a) (f b) with q | q
  · rw [Nat.min_eq_left q, Nat.max_eq_right q] at h0
    have := ((zbt_and _ l1 _ l2).2 d hd).mpr ⟨k1, k2⟩
    rw [h0, zbt_0] at this; exact absurd this (by decide)
  · rw [Nat.min_eq_right q, Nat.max_eq_left q] at h0
    have := ((zbt_and _ l2 _ l1).2 d hd).mpr ⟨k2, k1⟩
    rw [h0, zbt_0] at this; exact absurd this (by decide)
theorem zAJ.init {nn : Nat} {base : Nat → Nat} (hb : ∀ i, i < nn → base i < 8) : zAJ nn (fun _ _ => False) base (fun i => i) base := by
  refine ⟨zMn.id, fun i hi _ => ?_, fun i e => absurd rfl e⟩
  refine zan_un (hb i hi) (fun c hc => ⟨fun w j q => ?_, fun w => w i (.refl i)⟩)
  have e : i = j := (zMn.id.iff i j).mp q
  rw [← e]; exact w

