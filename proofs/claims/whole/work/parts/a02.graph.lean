/-! chains: tables of numbers, the equations met in their order -/
def zhn (t : Nat → Nat) : Nat → Nat
  | 0 => 0
  | i + 1 => zhn t i + (if t i = 0 then 0 else 1)
theorem zhn_full {t : Nat → Nat} : ∀ n, (∀ i, i < n → t i ≠ 0) → zhn t n = n
  | 0, _ => rfl
  | n + 1, h => by rw [zhn, zhn_full n (fun i hi => h i (by omega)), if_neg (h n (by omega))]
theorem zhn_cg {t t' : Nat → Nat} : ∀ n, (∀ i, i < n → t' i = t i) → zhn t' n = zhn t n
  | 0, _ => rfl
  | n + 1, h => by rw [zhn, zhn, zhn_cg n (fun i hi => h i (by omega)), h n (by omega)]
theorem zhn_up {t t' : Nat → Nat} {j : Nat} (h0 : t j = 0) (h1 : t' j ≠ 0) (h : ∀ i, i ≠ j → t' i = t i) : ∀ n, j < n → zhn t' n = zhn t n + 1
  | 0, hj => absurd hj (Nat.not_lt_zero j)
  | n + 1, hj => by
    rw [zhn, zhn]
    by_cases c : j = n
    · subst c
      rw [if_neg h1, if_pos h0, zhn_cg j (fun i hi => h i (by omega))]
    · rw [zhn_up h0 h1 h n (by omega), h n (by omega)]; omega
theorem zhn_0 : ∀ n, zhn (fun _ => 0) n = 0
  | 0 => rfl
  | n + 1 => by rw [zhn, zhn_0 n]; rfl
/-- a table of 4096 places for the equations met: 0 nothing, k + 1 equation k -/
def zHT (h : zSt → Nat) (ns : List zSt) (t : Nat → Nat) : Prop :=
  (∀ i, i < 4096 → t i ≤ ns.length) ∧ zhn t 4096 ≤ ns.length ∧ ∀ k s, ns[k]? = some s → ∃ d, d < 4096 ∧ t ((h s + d) % 4096) = k + 1 ∧ ∀ i, i < d → t ((h s + i) % 4096) ≠ 0
theorem zHT_nil {h : zSt → Nat} : zHT h [] (fun _ => 0) :=
  ⟨fun _ _ => Nat.le_refl _, by rw [zhn_0]; exact Nat.zero_le _, fun k s hk => by simp at hk⟩
theorem zHT_free {h : zSt → Nat} {ns : List zSt} {t : Nat → Nat} {a : Nat} (H : zHT h ns t) (hn : ns.length < 4096) (hf : ∀ i, i < 4096 → t ((a + i) % 4096) ≠ 0) : False := by
  have hall : ∀ x, x < 4096 → t x ≠ 0 := fun x hx => by
    have e := hf ((x + 4096 - a % 4096) % 4096) (by omega)
    rw [show (a + (x + 4096 - a % 4096) % 4096) % 4096 = x by omega] at e
    exact e
  have := zhn_full 4096 hall
  have := H.2.1
  omega
theorem zHT_out {h : zSt → Nat} {ns : List zSt} {t : Nat → Nat} {s : zSt} {i : Nat} (H : zHT h ns t) (hp : ∀ i', i' < i → t ((h s + i') % 4096) ≠ 0 ∧ ns[t ((h s + i') % 4096) - 1]? ≠ some s) (h0 : t ((h s + i) % 4096) = 0) : s ∉ ns := fun hs => by
  obtain ⟨k, hk⟩ := List.getElem?_of_mem hs
  obtain ⟨d, d1, d2, d3⟩ := H.2.2 k s hk
  rcases Nat.lt_trichotomy d i with c | c | c
  · exact (hp d c).2 (by rw [d2]; exact hk)
  · rw [c, h0] at d2; omega
  · exact d3 i c h0
theorem zHT_new {h : zSt → Nat} {ns : List zSt} {t t' : Nat → Nat} {s : zSt} {i : Nat} (H : zHT h ns t) (hi : i < 4096) (hp : ∀ i', i' < i → t ((h s + i') % 4096) ≠ 0) (h0 : t ((h s + i) % 4096) = 0) (h1 : t' ((h s + i) % 4096) = ns.length + 1) (h2 : ∀ x, x ≠ (h s + i) % 4096 → t' x = t x) : zHT h (ns ++ [s]) t' := by
  have hne : ∀ x, t x ≠ 0 → t' x = t x := fun x hx => h2 x (fun e => hx (by rw [e]; exact h0))
  refine ⟨fun x hx => ?_, ?_, fun k u hk => ?_⟩
  · rw [List.length_append, List.length_singleton]
    by_cases c : x = (h s + i) % 4096
    · rw [c, h1]; exact Nat.le_refl _
    · rw [h2 x c]; have := H.1 x hx; omega
  · rw [zhn_up h0 (by omega) h2 4096 (Nat.mod_lt _ (by decide)), List.length_append, List.length_singleton]
    have := H.2.1; omega
  · rw [List.getElem?_append] at hk
    split at hk
    · obtain ⟨d, d1, d2, d3⟩ := H.2.2 k u hk
      exact ⟨d, d1, by rw [hne _ (by omega)]; exact d2, fun j hj => by rw [hne _ (d3 j hj)]; exact d3 j hj⟩
    · rename_i hkl
      have hk0 : k - ns.length = 0 := by
        rcases Nat.eq_zero_or_pos (k - ns.length) with q | q
        · exact q
        · rw [List.getElem?_eq_none (by rw [List.length_singleton]; omega)] at hk; cases hk
      rw [hk0] at hk
      have e : s = u := by simpa using hk
      subst e
      exact ⟨i, hi, by rw [h1]; omega, fun j hj => by rw [hne _ (hp j hj)]; exact hp j hj⟩
/-! the place of an equation among those met -/
def zix : List zSt → zSt → Nat
  | [], _ => 0
  | a :: l, s => if a = s then 0 else zix l s + 1
theorem zix_get : ∀ (l : List zSt) (s : zSt), s ∈ l → l[zix l s]? = some s
  | [], s, h => absurd h (by simp)
  | a :: l, s, h => by
    rw [zix]
    by_cases c : a = s
    · rw [if_pos c, c]; rfl
    · rw [if_neg c, List.getElem?_cons_succ]
      exact zix_get l s ((List.mem_cons.mp h).resolve_left (fun e => c e.symm))
theorem zix_lt {l : List zSt} {s : zSt} (h : s ∈ l) : zix l s < l.length := (List.getElem?_eq_some_iff.mp (zix_get l s h)).1
theorem zix_app : ∀ (l m : List zSt) (s : zSt), s ∈ l → zix (l ++ m) s = zix l s
  | [], _, s, h => absurd h (by simp)
  | a :: l, m, s, h => by
    rw [List.cons_append, zix, zix]
    by_cases c : a = s
    · rw [if_pos c, if_pos c]
    · rw [if_neg c, if_neg c, zix_app l m s ((List.mem_cons.mp h).resolve_left (fun e => c e.symm))]
theorem zix_new : ∀ (l : List zSt) (s : zSt), s ∉ l → zix (l ++ [s]) s = l.length
  | [], s, _ => by simp [zix]
  | a :: l, s, h => by
    have h2 : a ≠ s ∧ s ∉ l := ⟨fun e => h (by rw [e]; exact List.mem_cons_self), fun q => h (List.mem_cons_of_mem _ q)⟩
    rw [List.cons_append, zix, if_neg h2.1, zix_new l s h2.2, List.length_cons]
theorem zix_un : ∀ (l : List zSt) (s : zSt) (i : Nat), l.Nodup → l[i]? = some s → zix l s = i
  | [], s, i, _, h => by simp at h
  | a :: l, s, i, hn, h => by
    obtain ⟨n1, n2⟩ := List.nodup_cons.mp hn
    rw [zix]
    cases i with
    | zero =>
      have e : a = s := by simpa using h
      rw [if_pos e]
    | succ i =>
      rw [List.getElem?_cons_succ] at h
      have hm := List.mem_of_getElem? h
      rw [if_neg (fun e => n1 (by rw [e]; exact hm)), zix_un l s i n2 h]
/-! the equations met -/
def zap (ns : List zSt) (e : Nat) : List zSt := match ns[e / 4]? with
  | none => ns
  | some s => if e % 4 < zqn (zhd s.1) (zhd s.2) then (if znx s (e % 4) ∈ ns then ns else ns ++ [znx s (e % 4)]) else ns
def zN (s0 : zSt) : Nat → List zSt
  | 0 => [s0]
  | e + 1 => zap (zN s0 e) e
theorem zap_none {ns : List zSt} {e : Nat} (h : ns.length ≤ e / 4) : zap ns e = ns := by
  unfold zap; rw [List.getElem?_eq_none h]
theorem zap_off {ns : List zSt} {e : Nat} {s : zSt} (h : ns[e / 4]? = some s) (hk : ¬ e % 4 < zqn (zhd s.1) (zhd s.2)) : zap ns e = ns := by
  unfold zap; rw [h]; simp only; rw [if_neg hk]
theorem zap_old {ns : List zSt} {e : Nat} {s : zSt} (h : ns[e / 4]? = some s) (hm : znx s (e % 4) ∈ ns) : zap ns e = ns := by
  unfold zap; rw [h]; simp only; rw [if_pos hm]; split <;> rfl
theorem zap_new {ns : List zSt} {e : Nat} {s : zSt} (h : ns[e / 4]? = some s) (hk : e % 4 < zqn (zhd s.1) (zhd s.2)) (hm : znx s (e % 4) ∉ ns) : zap ns e = ns ++ [znx s (e % 4)] := by
  unfold zap; rw [h]; simp only; rw [if_pos hk, if_neg hm]
theorem zap_or (ns : List zSt) (e : Nat) : zap ns e = ns ∨ ∃ s, ns[e / 4]? = some s ∧ e % 4 < zqn (zhd s.1) (zhd s.2) ∧ znx s (e % 4) ∉ ns ∧ zap ns e = ns ++ [znx s (e % 4)] := by
  cases h : ns[e / 4]? with
  | none => exact Or.inl (zap_none (List.getElem?_eq_none_iff.mp h))
  | some s =>
    by_cases hk : e % 4 < zqn (zhd s.1) (zhd s.2)
    · by_cases hm : znx s (e % 4) ∈ ns
      · exact Or.inl (zap_old h hm)
      · exact Or.inr ⟨s, rfl, hk, hm, zap_new h hk hm⟩
    · exact Or.inl (zap_off h hk)
section ZNS
variable {s0 : zSt}
theorem zN_pre {a : Nat} : ∀ b, a ≤ b → ∃ l, zN s0 b = zN s0 a ++ l
  | 0, h => ⟨[], by rw [show a = 0 by omega, List.append_nil]⟩
  | b + 1, h => by
    by_cases c : a = b + 1
    · exact ⟨[], by rw [c, List.append_nil]⟩
    · obtain ⟨l, hl⟩ := zN_pre b (show a ≤ b by omega)
      rcases zap_or (zN s0 b) b with q | ⟨s, _, _, _, q⟩
      · exact ⟨l, by rw [zN, q, hl]⟩
      · exact ⟨l ++ [znx s (b % 4)], by rw [zN, q, hl, List.append_assoc]⟩
theorem zN_len {a b : Nat} (h : a ≤ b) : (zN s0 a).length ≤ (zN s0 b).length := by
  obtain ⟨l, hl⟩ := zN_pre (s0 := s0) b h
  rw [hl, List.length_append]; omega
theorem zN_get {a b k : Nat} {s : zSt} (h : a ≤ b) (hk : (zN s0 a)[k]? = some s) : (zN s0 b)[k]? = some s := by
  obtain ⟨l, hl⟩ := zN_pre (s0 := s0) b h
  have hlt := (List.getElem?_eq_some_iff.mp hk).1
  rw [hl, List.getElem?_append, if_pos hlt]; exact hk
theorem zN_nd : ∀ e, (zN s0 e).Nodup
  | 0 => by simp [zN]
  | e + 1 => by
    have ih := zN_nd e
    rcases zap_or (zN s0 e) e with q | ⟨s, _, _, hm, q⟩
    · rw [zN, q]; exact ih
    · rw [zN, q]
      refine List.nodup_append.mpr ⟨ih, by simp, fun a ha b hb => ?_⟩
      have : b = znx s (e % 4) := by simpa using hb
      intro w; rw [w, this] at ha; exact hm ha
theorem zN_v (h0 : zvS s0) : ∀ e s, s ∈ zN s0 e → zvS s
  | 0, s, h => by
    have : s = s0 := by simpa [zN] using h
    rw [this]; exact h0
  | e + 1, s, h => by
    rcases zap_or (zN s0 e) e with q | ⟨u, hu, hk, hm, q⟩
    · rw [zN, q] at h; exact zN_v h0 e s h
    · rw [zN, q] at h
      rcases List.mem_append.mp h with w | w
      · exact zN_v h0 e s w
      · have : s = znx u (e % 4) := by simpa using w
        rw [this]; exact zvS_nx (zN_v h0 e u (List.mem_of_getElem? hu)) hk
theorem zN_pos (e : Nat) : 1 ≤ (zN s0 e).length := zN_len (s0 := s0) (Nat.zero_le e)
theorem zN_step (e : Nat) : (zN s0 (e + 1)).length ≤ (zN s0 e).length + 1 := by
  rcases zap_or (zN s0 e) e with q | ⟨s, _, _, _, q⟩
  · rw [zN, q]; omega
  · rw [zN, q, List.length_append]; simp
theorem zN_end {a : Nat} (h : (zN s0 a).length ≤ a / 4) : ∀ b, a ≤ b → zN s0 b = zN s0 a
  | 0, hb => by rw [show a = 0 by omega]
  | b + 1, hb => by
    by_cases c : a = b + 1
    · rw [c]
    · have ih := zN_end h b (by omega)
      rw [zN, ih, zap_none (by omega)]
/-- where an edge leads to, what it frees -/
def ztg (s0 : zSt) (e : Nat) : Int := match (zN s0 e)[e / 4]? with
  | none => -1
  | some s => if e % 4 < zqn (zhd s.1) (zhd s.2) then ((zix (zN s0 (e + 1)) (znx s (e % 4)) : Nat) : Int) else -1
def zfe (s0 : zSt) (e : Nat) : Int := match (zN s0 e)[e / 4]? with
  | none => 0
  | some s => if e % 4 < zqn (zhd s.1) (zhd s.2) then (if zfv s (e % 4) = 0 then 0 else 1) else 0
theorem ztg_off {e : Nat} {s : zSt} (h : (zN s0 e)[e / 4]? = some s) (hk : ¬ e % 4 < zqn (zhd s.1) (zhd s.2)) : ztg s0 e = -1 ∧ zfe s0 e = 0 := by
  unfold ztg zfe; rw [h]; simp only; rw [if_neg hk, if_neg hk]; exact ⟨rfl, rfl⟩
theorem ztg_on {e : Nat} {s : zSt} (h : (zN s0 e)[e / 4]? = some s) (hk : e % 4 < zqn (zhd s.1) (zhd s.2)) : ztg s0 e = ((zix (zN s0 (e + 1)) (znx s (e % 4)) : Nat) : Int) ∧ zfe s0 e = if zfv s (e % 4) = 0 then 0 else 1 := by
  unfold ztg zfe; rw [h]; simp only; rw [if_pos hk, if_pos hk]; exact ⟨rfl, rfl⟩
theorem zN_mem {e : Nat} {s : zSt} (h : (zN s0 e)[e / 4]? = some s) (hk : e % 4 < zqn (zhd s.1) (zhd s.2)) : znx s (e % 4) ∈ zN s0 (e + 1) := by
  rw [zN]
  by_cases hm : znx s (e % 4) ∈ zN s0 e
  · rw [zap_old h hm]; exact hm
  · rw [zap_new h hk hm]; exact List.mem_append_right _ (List.mem_singleton.mpr rfl)
theorem ztg_bd (e : Nat) : ztg s0 e = -1 ∨ (0 ≤ ztg s0 e ∧ ztg s0 e < (zN s0 (e + 1)).length) := by
  cases h : (zN s0 e)[e / 4]? with
  | none => exact Or.inl (by unfold ztg; rw [h])
  | some s =>
    by_cases hk : e % 4 < zqn (zhd s.1) (zhd s.2)
    · have := zix_lt (zN_mem h hk)
      rw [(ztg_on h hk).1]; omega
    · exact Or.inl (ztg_off h hk).1
theorem zcb_ex {k : Nat} (hk : 1 ≤ k) : ∀ E, k < (zN s0 E).length → ∃ e, e < E ∧ (zN s0 e).length = k ∧ (zN s0 (e + 1)).length = k + 1
  | 0, h => by simp [zN] at h; omega
  | E + 1, h => by
    by_cases c : k < (zN s0 E).length
    · obtain ⟨e, h1, h2⟩ := zcb_ex hk E c
      exact ⟨e, by omega, h2⟩
    · have := zN_step (s0 := s0) E
      exact ⟨E, by omega, by omega, by omega⟩
noncomputable def zcb (s0 : zSt) (k : Nat) : Nat := @dite Nat (∃ e, (zN s0 e).length = k ∧ (zN s0 (e + 1)).length = k + 1) (Classical.propDecidable _) (fun h => Classical.choose h) (fun _ => 0)
theorem zcb_sp {k e : Nat} (h1 : (zN s0 e).length = k) (h2 : (zN s0 (e + 1)).length = k + 1) : zcb s0 k = e := by
  have hx : ∃ e, (zN s0 e).length = k ∧ (zN s0 (e + 1)).length = k + 1 := ⟨e, h1, h2⟩
  have e0 : zcb s0 k = Classical.choose hx := by unfold zcb; rw [dif_pos hx]
  obtain ⟨g1, g2⟩ := Classical.choose_spec hx
  rw [e0]
  rcases Nat.lt_trichotomy (Classical.choose hx) e with c | c | c
  · have := zN_len (s0 := s0) (show Classical.choose hx + 1 ≤ e by omega); omega
  · exact c
  · have := zN_len (s0 := s0) (show e + 1 ≤ Classical.choose hx by omega); omega
end ZNS
/-- a graph whose nodes are met in order -/
def zGr (n : Nat) (T : Nat → Int) (cb : Nat → Nat) : Prop := (∀ e, e < 4 * n → T e = -1 ∨ (0 ≤ T e ∧ T e < n)) ∧ (∀ k, 1 ≤ k → k < n → T (cb k) = (k : Int) ∧ cb k / 4 < k) ∧ ∀ k e, 1 ≤ k → k < n → e < cb k → T e < (k : Int)
theorem zGr_N {s0 : zSt} (hn : (zN s0 6000).length ≤ 1500) : zGr (zN s0 6000).length (ztg s0) (zcb s0) := by
  refine ⟨fun e he => ?_, fun k h1 h2 => ?_, fun k e h1 h2 he => ?_⟩
  · rcases ztg_bd (s0 := s0) e with q | ⟨q1, q2⟩
    · exact Or.inl q
    · have := zN_len (s0 := s0) (show e + 1 ≤ 6000 by omega)
      exact Or.inr ⟨q1, by omega⟩
  · obtain ⟨e, e1, e2, e3⟩ := zcb_ex (s0 := s0) h1 6000 h2
    rw [zcb_sp e2 e3]
    rcases zap_or (zN s0 e) e with q | ⟨s, hs, hk, hm, q⟩
    · rw [zN, q] at e3; omega
    · have hlt := (List.getElem?_eq_some_iff.mp hs).1
      refine ⟨?_, by omega⟩
      rw [(ztg_on hs hk).1, zN, q, zix_new _ _ hm, e2]
  · obtain ⟨c, e1, e2, e3⟩ := zcb_ex (s0 := s0) h1 6000 h2
    rw [zcb_sp e2 e3] at he
    rcases ztg_bd (s0 := s0) e with q | ⟨q1, q2⟩
    · omega
    · have := zN_len (s0 := s0) (show e + 1 ≤ c by omega)
      omega

