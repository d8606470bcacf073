/-! the law: what its cases share -/
abbrev qT : x_Q := fun v _ _ => v = some (vI 1)
abbrev zNx (i r N : Nat) (sc : Nat → Int) : Prop := ∀ (L' : List Nat) (G' : Nat → Nat → Int) (k' n' : Nat), zInv L' G' → zBu r L' k' n' → X (mL_law N sc) 10 600000 7302250 qT 1091 [some (vR 0), some (vR 1), some (vR 127), some (vI i)] [] L' G' k' n'
abbrev zSc (sc : Nat → Int) : Prop := ∀ j, -2147483648 ≤ sc j ∧ sc j < 2147483648
theorem cAr.c13 {L : List Nat} {G G' : Nat → Nat → Int} (h : cAr L G) (k : ∀ j, j ≠ 13 → G' 46 j = G 46 j) : cAr L G' := by
  unfold cAr cRW
  rw [k 9 (by decide), k 10 (by decide)]
  exact h
section XLH
variable {L : List Nat} {m : Nat} {S : Nat → Nat} {I : Nat → Nat → Nat} {lo hi mk : Nat → Nat}
theorem cCh_tk {m' : Nat} {S' : Nat → Nat} {I' : Nat → Nat → Nat} {T : List Nat} {G G' : Nat → Nat → Int} (h : cCh L m S I G) (h67 : ∀ e, e < 4 → G' 67 e = 0) (k : FR T G G') (hT : ∀ i, i ∈ T → i = 67 ∨ i ∉ z_fT) : cCh L m' S' I' G' := by
  have nn : ∀ i, i ∈ z_fT → i ≠ 67 → G' i = G i := fun i hi h7 => k i (fun w => by
    rcases hT i w with c | c
    · exact h7 c
    · exact c hi)
  refine ⟨fun e he => ⟨Or.inl (h67 e he), ?_⟩, ?_⟩
  · rcases (h.1 e he).2 with c | c
    · exact Or.inl ⟨by rw [nn 78 (by decide) (by decide)]; exact c.1, c.2⟩
    · exact Or.inr ⟨by rw [nn 78 (by decide) (by decide)]; exact c.1, c.2⟩
  · rcases h.2 with ⟨c1, c2, c3⟩ | ⟨c1, c2⟩
    · refine Or.inl ⟨by rw [nn 66 (by decide) (by decide)]; exact c1, c2, fun t ht => ?_⟩
      have hall : ∀ t ∈ xGL, t.1 ∈ z_fT ∧ t.1 ≠ 67 := by decide
      rw [nn t.1 (hall t ht).1 (hall t ht).2]
      exact c3 t ht
    · exact Or.inr ⟨by rw [nn 66 (by decide) (by decide)]; exact c1, c2⟩
theorem cSuv_0 {G : Nat → Nat → Int} (h : G 46 13 = 0) : cSuv L m S I lo hi mk G := ⟨Or.inl h, fun w => absurd (h.symm.trans w) (by decide)⟩
theorem cSo_0 {s : Nat} {sn : Nat → Nat} {sl : Nat → Nat → Nat} {G : Nat → Nat → Int} (h : G 88 6 = 0) : cSo s sn sl G := ⟨Or.inl h, fun w => absurd (h.symm.trans w) (by decide)⟩
theorem zAL.new {L' : List Nat} (h : zAL L L') : ∀ i, i ∈ L' → i ∈ L ∨ i < 169 := fun i hi => by
  rcases h with rfl | rfl
  · exact Or.inl hi
  · rcases List.mem_append.mp hi with w | w
    · rcases List.mem_append.mp w with w | w
      · exact Or.inl w
      · rw [List.mem_singleton.mp w]; exact Or.inr (by decide)
    · rw [List.mem_singleton.mp w]; exact Or.inr (by decide)
theorem fC_le {e : Nat} (he : e < 4) : fC L e ≤ pC L ∧ fS L e ≤ pS L := by
  unfold fC fS pC pS
  rcases (show e = 0 ∨ e = 1 ∨ e = 2 ∨ e = 3 by omega) with rfl | rfl | rfl | rfl <;> exact ⟨by simp only [Nat.add_zero, Nat.reduceAdd]; omega, by simp only [Nat.add_zero, Nat.reduceAdd]; omega⟩
/-! answers are functions -/
theorem zTP_fn {i u : Nat} {k x y : Int} (hx : zTP m S I lo hi mk i u k x) (hy : zTP m S I lo hi mk i u k y) : x = y := by
  rcases hx with ⟨h1, h2⟩ | ⟨c, c1, c2, c3, c4⟩ <;> rcases hy with ⟨k1, k2⟩ | ⟨d, d1, d2, d3, d4⟩
  · rw [h2, k2]
  · have := zT_lt (W := zWc m S I lo hi mk) d1
    omega
  · have := zT_lt (W := zWc m S I lo hi mk) c1
    omega
  · have e : c = d := by
      rcases Nat.lt_trichotomy c d with w | w | w
      · have := zT_lt (W := zWc m S I lo hi mk) w
        omega
      · exact w
      · have := zT_lt (W := zWc m S I lo hi mk) w
        omega
    subst e
    rw [c4, d4]
theorem zAn_fn {i u k x y : Int} (hx : (∃ b, zBad u i k = some b ∧ x = b) ∨ (zBad u i k = none ∧ zTP m S I lo hi mk i.toNat u.toNat k x)) (hy : (∃ b, zBad u i k = some b ∧ y = b) ∨ (zBad u i k = none ∧ zTP m S I lo hi mk i.toNat u.toNat k y)) : x = y := by
  rcases hx with ⟨b, b1, b2⟩ | ⟨b1, b2⟩ <;> rcases hy with ⟨c, c1, c2⟩ | ⟨c1, c2⟩
  · rw [b2, c2]
    exact Option.some.inj (b1.symm.trans c1)
  · rw [b1] at c1; cases c1
  · rw [b1] at c1; cases c1
  · exact zTP_fn b2 c2
theorem zRQ_fn {tw : Nat → Int} {tn : Nat → Nat} {x y : Int} (hx : zRQ m S I lo hi mk tw tn x) (hy : zRQ m S I lo hi mk tw tn y) : x = y := by
  obtain ⟨a, a1, a2⟩ := hx
  obtain ⟨b, b1, b2⟩ := hy
  have e : a = b := by
    rcases a1 with ⟨h1, h2⟩ | ⟨h1, h2⟩ <;> rcases b1 with ⟨k1, k2⟩ | ⟨k1, k2⟩
    · rw [h2, k2]
    · rcases h1 with w | w
      · have := k1.1; omega
      · exact absurd k1.2 w
    · rcases k1 with w | w
      · have := h1.1; omega
      · exact absurd h1.2 w
    · rw [h2, k2]
  rw [a2, b2, e]
theorem zMt_fn {x y : Int} {e0 : Int} (hx : zCP m S I (zMtP S I) e0 x) (hy : zCP m S I (zMtP S I) e0 y) : x = y := zCP_fn (P := zMtP S I) (fun _ _ _ h1 h2 => by unfold zMtP at h1 h2; rw [h1, h2]) hx hy
theorem zFw_fn {x y : Int} {e0 : Int} (hx : zCP m S I (zFwP S I) e0 x) (hy : zCP m S I (zFwP S I) e0 y) : x = y := zCP_fn (P := zFwP S I) (fun _ _ _ h1 h2 => by unfold zFwP at h1 h2; exact zDi_un h1 h2) hx hy
theorem zRi_fn {x y : Int} {e0 : Int} (hx : zCP m S I (zRiP S I) e0 x) (hy : zCP m S I (zRiP S I) e0 y) : x = y := zCP_fn zRiP_fn hx hy
theorem zPu_fn {x y : Int} {e0 i : Int} (hx : (¬ (0 ≤ e0 ∧ e0 < m) ∧ x = -2) ∨ ((0 ≤ e0 ∧ e0 < m) ∧ ((i < 0 ∧ x = -3) ∨ (0 ≤ i ∧ zCP m S I (zPuP S I i.toNat) e0 x)))) (hy : (¬ (0 ≤ e0 ∧ e0 < m) ∧ y = -2) ∨ ((0 ≤ e0 ∧ e0 < m) ∧ ((i < 0 ∧ y = -3) ∨ (0 ≤ i ∧ zCP m S I (zPuP S I i.toNat) e0 y)))) : x = y := by
  rcases hx with ⟨h1, h2⟩ | ⟨h1, ⟨h2, h3⟩ | ⟨h2, h3⟩⟩ <;> rcases hy with ⟨k1, k2⟩ | ⟨k1, ⟨k2, k3⟩ | ⟨k2, k3⟩⟩
  · rw [h2, k2]
  · exact absurd k1 h1
  · exact absurd k1 h1
  · exact absurd h1 k1
  · rw [h3, k3]
  · omega
  · exact absurd h1 k1
  · omega
  · exact zCP_fn zPuP_fn h3 k3
theorem zFo_fn {x y : Int} {e0 u k : Int} (hx : (¬ ((0 ≤ e0 ∧ e0 < m) ∧ 0 ≤ u ∧ u < 4) ∧ x = -2) ∨ (((0 ≤ e0 ∧ e0 < m) ∧ 0 ≤ u ∧ u < 4) ∧ ((k < -1 ∧ x = -3) ∨ (-1 ≤ k ∧ zCP m S I (zFoP S I u.toNat k) e0 x)))) (hy : (¬ ((0 ≤ e0 ∧ e0 < m) ∧ 0 ≤ u ∧ u < 4) ∧ y = -2) ∨ (((0 ≤ e0 ∧ e0 < m) ∧ 0 ≤ u ∧ u < 4) ∧ ((k < -1 ∧ y = -3) ∨ (-1 ≤ k ∧ zCP m S I (zFoP S I u.toNat k) e0 y)))) : x = y := by
  rcases hx with ⟨h1, h2⟩ | ⟨h1, ⟨h2, h3⟩ | ⟨h2, h3⟩⟩ <;> rcases hy with ⟨k1, k2⟩ | ⟨k1, ⟨k2, k3⟩ | ⟨k2, k3⟩⟩
  · rw [h2, k2]
  · exact absurd k1 h1
  · exact absurd k1 h1
  · exact absurd h1 k1
  · rw [h3, k3]
  · omega
  · exact absurd h1 k1
  · omega
  · exact zCP_fn zFoP_fn h3 k3
theorem zCo_fn {s : Nat} {sn : Nat → Nat} {sl : Nat → Nat → Nat} {k x y : Int} (hx : (k < -1 ∧ x = -3) ∨ (-1 ≤ k ∧ s = 0 ∧ x = -4) ∨ (-1 ≤ k ∧ 1 ≤ s ∧ ∃ nn F, zCmn s sn sl nn F ∧ x = zCans nn F k)) (hy : (k < -1 ∧ y = -3) ∨ (-1 ≤ k ∧ s = 0 ∧ y = -4) ∨ (-1 ≤ k ∧ 1 ≤ s ∧ ∃ nn F, zCmn s sn sl nn F ∧ y = zCans nn F k)) : x = y := by
  rcases hx with ⟨h1, h2⟩ | ⟨h1, h2, h3⟩ | ⟨h1, h2, nn, F, h3, h4⟩ <;> rcases hy with ⟨k1, k2⟩ | ⟨k1, k2, k3⟩ | ⟨k1, k2, nn', F', k3, k4⟩
  · rw [h2, k2]
  · omega
  · omega
  · omega
  · rw [h3, k3]
  · omega
  · omega
  · omega
  · obtain ⟨e, eF⟩ := h3.uniq k3
    subst e
    rw [h4, k4]
    unfold zCans
    by_cases c : k = -1
    · rw [if_pos c, if_pos c]
    · rw [if_neg c, if_neg c]
      by_cases c2 : k < (nn : Int)
      · rw [if_pos c2, if_pos c2, eF _ (by omega)]
      · rw [if_neg c2, if_neg c2]
/-! a call that may chase -/
theorem x_cChain {d' : Nat} {y : MethodName} {cc' : ByteArray} {nL' : Nat} {μ : x_M} {Q : x_Q} {pc idx r k n : Nat} {ls : List (Option (Nat × Int))} {st0 : List (Nat × Int)} {G : Nat → Nat → Int} {as : List (Nat × Int)} {e0 : Int} {lv : Prop} {P : Int → Prop} (hL : x_SL L) (hm4 : m ≤ 4) (bu : zBu (r + 1) L k n) (hd : decode (x_cc μ) pc = .ok (.invokevirtual idx, 3)) (hlk : x_lkV (x_own μ) idx y cc' nL' (some .int) as.length) (hct : ∀ mc ms, zCap L G m S I e0 lv mc ms → Ct y cc' nL' (some .int) d' mc ms (vR 1 :: as) L G (pChC L G m S I e0 lv P)) (hy : (vwCl[11]?).map (fun q => q.1) = some y.cls) (hdd : d' + 1 ≤ 10 ∧ nL' ≤ 18) (hst : st0 = as.reverse ++ vR 1 :: [])
    (kk : ∀ x L1 G1 k1 n1, P x → x_gr L L1 → x_SL L1 → cCh L1 m S I G1 → FR z_fT G G1 → x_Fin xFL G1 → zBu r L1 k1 n1 → X μ 10 600000 7302250 Q (pc + 3) ls [vI x] L1 G1 k1 n1) : X μ 10 600000 7302250 Q pc ls st0 L G k n := by
  have hb := bu
  unfold zBu at hb
  by_cases c : ∃ e : Nat, e0 = ((e : Nat) : Int) ∧ e < m ∧ lv ∧ ¬ (zbad S I e ∨ G 67 e = 1)
  · obtain ⟨e, c1, c2, c3, c4⟩ := c
    have he4 : e < 4 := by omega
    have hf := fC_le (L := L) he4
    refine x_callV hd hlk (hct (fC L e) (fS L e) (fun e' h1 h2 _ => ?_)) k_1 ⟨by decide, hy⟩ (hL 1 (by decide) (by decide)) hdd ⟨by omega, by omega⟩ (Nat.le_of_ble_eq_true rfl) hst ?_
    · have : e' = e := by omega
      subst this
      exact Or.inr (Or.inr ⟨Nat.le_refl _, Nat.le_refl _⟩)
    · rintro v L1 G1 ⟨⟨x, rfl, hx⟩, g, hC, k1, hF, hl⟩ hs
      rcases hl e c1 c2 c3 with w | w
      · exact absurd w c4
      · exact kk x L1 G1 _ _ hx g (fun i i1 i2 => hs i (hL i i1 i2)) hC k1 hF (bu.ch he4 hs w.1 w.2)
  · refine x_callV hd hlk (hct 0 0 (fun e' h1 h2 h3 => ?_)) k_1 ⟨by decide, hy⟩ (hL 1 (by decide) (by decide)) hdd ⟨by omega, by omega⟩ (Nat.le_of_ble_eq_true rfl) hst ?_
    · exact Classical.byContradiction fun w => c ⟨e', h1, h2, h3, fun q => w (q.elim Or.inl (fun q => Or.inr (Or.inl q)))⟩
    · rintro v L1 G1 ⟨⟨x, rfl, hx⟩, g, hC, k1, hF, hl⟩ hs
      exact kk x L1 G1 _ _ hx g (fun i i1 i2 => hs i (hL i i1 i2)) hC k1 hF (bu.gr hs)
end XLH

