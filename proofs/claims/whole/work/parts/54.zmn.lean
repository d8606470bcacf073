/-! least members of classes -/
def zQ (E : Nat → Nat → Prop) (i j : Nat) : Prop := ∀ g : Nat → Nat, (∀ a b, E a b → g a = g b) → g i = g j
theorem zQ.base {E : Nat → Nat → Prop} {i j : Nat} (e : E i j) : zQ E i j := fun _ h => h i j e
theorem zQ.refl {E : Nat → Nat → Prop} (i : Nat) : zQ E i i := fun _ _ => rfl
theorem zQ.symm {E : Nat → Nat → Prop} {i j : Nat} (q : zQ E i j) : zQ E j i := fun g h => (q g h).symm
theorem zQ.trans {E : Nat → Nat → Prop} {i j k : Nat} (q : zQ E i j) (r : zQ E j k) : zQ E i k := fun g h => (q g h).trans (r g h)
theorem zQ.mono {E F : Nat → Nat → Prop} (h : ∀ i j, E i j → zQ F i j) {i j : Nat} (q : zQ E i j) : zQ F i j := fun g hg => q g (fun a b e => h a b e g hg)
theorem zQ.inv {E : Nat → Nat → Prop} {g : Nat → Nat} (h : ∀ i j, E i j → g i = g j) {i j : Nat} (q : zQ E i j) : g i = g j := q g h
def zMn (E : Nat → Nat → Prop) (f : Nat → Nat) : Prop := ∀ i, f i ≤ i ∧ zQ E i (f i) ∧ ∀ j, E i j → f i = f j
theorem zMn.eqv {E : Nat → Nat → Prop} {f : Nat → Nat} (h : zMn E f) {i j : Nat} (q : zQ E i j) : f i = f j := zQ.inv (fun i j e => (h i).2.2 j e) q
theorem zMn.idem {E : Nat → Nat → Prop} {f : Nat → Nat} (h : zMn E f) (i : Nat) : f (f i) = f i := (h.eqv (h i).2.1).symm
theorem zMn.uniq {E F : Nat → Nat → Prop} {f g : Nat → Nat} (h : zMn E f) (k : zMn F g) (e : ∀ i j, E i j → zQ F i j) (e2 : ∀ i j, F i j → zQ E i j) (i : Nat) : f i = g i := by
  have h1 : f i = f (g i) := h.eqv (zQ.mono e2 (k i).2.1)
  have h2 : g i = g (f i) := k.eqv (zQ.mono e (h i).2.1)
  have h3 := (h (g i)).1
  have h4 := (k (f i)).1
  omega
theorem zMn.id : zMn (fun _ _ => False) (fun i => i) := fun i => ⟨Nat.le_refl _, .refl i, fun _ q => q.elim⟩
theorem zMn.join {E : Nat → Nat → Prop} {f : Nat → Nat} (h : zMn E f) (a b : Nat) : zMn (fun i j => E i j ∨ (i = a ∧ j = b)) (zjf f a b) := by
  have up : ∀ {i j : Nat}, zQ E i j → zQ (fun i j => E i j ∨ (i = a ∧ j = b)) i j := fun q => zQ.mono (fun i j e => .base (Or.inl e)) q
  have hab : zQ (fun i j => E i j ∨ (i = a ∧ j = b)) (f a) (f b) := .trans (.symm (up (h a).2.1)) (.trans (.base (Or.inr ⟨rfl, rfl⟩)) (up (h b).2.1))
  intro i
  refine ⟨zjf_le (h i).1, ?_, fun j e => ?_⟩
  · unfold zjf
    by_cases c : f i = max (f a) (f b)
    · rw [if_pos c]
      refine .trans (up (h i).2.1) ?_
      rw [c]
      rcases Nat.le_total (f a) (f b) with q | q
      · rw [Nat.max_eq_right q, Nat.min_eq_left q]; exact .symm hab
      · rw [Nat.max_eq_left q, Nat.min_eq_right q]; exact hab
    · rw [if_neg c]; exact up (h i).2.1
  · rcases e with e | ⟨rfl, rfl⟩
    · unfold zjf; rw [(h i).2.2 j e]
    · unfold zjf
      rcases Nat.le_total (f i) (f j) with q | q
      · rw [Nat.max_eq_right q, Nat.min_eq_left q, if_pos rfl]; split <;> omega
      · rw [Nat.max_eq_left q, Nat.min_eq_right q, if_pos rfl]; split <;> omega
theorem cAl.cg {r n : Nat} {f mk : Nat → Nat} {S : List Nat} {G G' : Nat → Nat → Int} (h : cAl r n f mk G) (hR : FR S G G') (h0 : r ∉ S) (h1 : r + 1 ∉ S) (h2 : r + 2 ∉ S) : cAl r n f mk G' := by
  obtain ⟨a, b, c, d⟩ := h
  refine ⟨by rw [hR _ h0]; exact a, b, fun i hi => by rw [hR _ h1]; exact c i hi, fun i hi => by rw [hR _ h2]; exact d i hi⟩
def zPE (n p : Nat) (i j : Nat) : Prop := j = i + p ∧ j < n
theorem l_Al_ja {r n p : Nat} {E : Nat → Nat → Prop} {L : List Nat} {G0 : Nat → Nat → Int} (hA : xAl r) (hL : x_SL L) (hp : 1 ≤ p ∧ p ≤ 60) :
    ∀ (k t : Nat) (f mk : Nat → Nat) (G : Nat → Nat → Int), n ≤ t + k → t ≤ n → cAl r n f mk G → zMn (fun i j => E i j ∨ (i < t ∧ zPE n p i j)) f → FR [r + 1, r + 2] G0 G → x_Fin xFL G →
    X mX0_joinApart 2 0 0 (qV L fun G' => (∃ f mk, cAl r n f mk G' ∧ zMn (fun i j => E i j ∨ zPE n p i j) f) ∧ FR [r + 1, r + 2] G0 G' ∧ x_Fin xFL G') 2 [some (vR r), some (vI p), some (vI t)] [] L G 0 0 := by
  intro k
  induction k with
  | zero =>
    intro t f mk G ht htn hC hM hR hF
    obtain ⟨h1, h2, h3, h4⟩ := id hC
    refine x_iloadn (pc := 2) dX0_joinApart_2 rfl ?_
    refine x_iloadn (pc := 3) dX0_joinApart_3 rfl ?_
    refine x_iadd (pc := 4) dX0_joinApart_4 ?_
    refine x_aloadn (pc := 5) dX0_joinApart_5 rfl ?_
    refine x_getI (pc := 6) dX0_joinApart_6 fl_X0_18 (al_k0 hA) (al_m0 hA hL) ?_
    refine x_cge (tgt := 27) (pc := 9) dX0_joinApart_9 (by decide) (by omega) (fun c_9 => ?_) (fun c_9 => ?_)
    rotate_left
    · skip
      exact absurd c_9 (by omega)
    refine x_rV (pc := 27) dX0_joinApart_27 rfl ?_
    refine ⟨⟨f, mk, hC, fun i => ⟨(hM i).1, zQ.mono (fun i j e => .base (e.elim Or.inl (fun q => Or.inr q.2))) (hM i).2.1, fun j e => ?_⟩⟩, hR, hF⟩
    rcases e with e | e
    · exact (hM i).2.2 j (Or.inl e)
    · exact (hM i).2.2 j (Or.inr ⟨by obtain ⟨e1, e2⟩ := e; omega, e⟩)
  | succ k ih =>
    intro t f mk G ht htn hC hM hR hF
    obtain ⟨h1, h2, h3, h4⟩ := id hC
    by_cases c : t + p < n
    · skip
      refine x_iloadn (pc := 2) dX0_joinApart_2 rfl ?_
      refine x_iloadn (pc := 3) dX0_joinApart_3 rfl ?_
      refine x_iadd (pc := 4) dX0_joinApart_4 ?_
      refine x_aloadn (pc := 5) dX0_joinApart_5 rfl ?_
      refine x_getI (pc := 6) dX0_joinApart_6 fl_X0_18 (al_k0 hA) (al_m0 hA hL) ?_
      refine x_cge (tgt := 27) (pc := 9) dX0_joinApart_9 (by decide) (by omega) (fun c_9 => ?_) (fun c_9 => ?_)
      · skip
        exact absurd c_9 (by omega)
      refine x_aloadn (pc := 12) dX0_joinApart_12 rfl ?_
      refine x_iloadn (pc := 13) dX0_joinApart_13 rfl ?_
      refine x_iloadn (pc := 14) dX0_joinApart_14 rfl ?_
      refine x_iloadn (pc := 15) dX0_joinApart_15 rfl ?_
      refine x_iadd (pc := 16) dX0_joinApart_16 ?_
      refine x_cVI (pc := 17) dX0_joinApart_17 lk_X0_31 (c_Al_join (a := t) (b := t + p) hA hL hF hC (by omega) c (fun i _ => hM.idem i)) (al_k0 hA) ⟨by decide, rfl⟩ (al_m0 hA hL) (⟨by decide, by decide⟩) (Nat.le_of_ble_eq_true rfl) rfl ?_
      rintro x G1 ⟨_, a2, a3, hF⟩
      refine x_pop (pc := 20) dX0_joinApart_20 (fun h => by cases h) ?_
      refine x_iinc (pc := 21) dX0_joinApart_21 rfl (by decide) rfl ?_
      refine x_goto (tgt := 2) (pc := 24) dX0_joinApart_24 (by decide) ?_
      refine ih (t + 1) _ _ _ (by omega) (by omega) a2 ?_ (hR.tr a3) hF
      have := hM.join t (t + p)
      intro i
      refine ⟨(this i).1, zQ.mono (fun i j e => .base ?_) (this i).2.1, fun j e => (this i).2.2 j ?_⟩
      · rcases e with (e | e) | ⟨rfl, rfl⟩
        · exact Or.inl e
        · exact Or.inr ⟨by omega, e.2⟩
        · exact Or.inr ⟨by omega, rfl, c⟩
      · rcases e with e | ⟨e1, e2, e3⟩
        · exact Or.inl (Or.inl e)
        · by_cases ci : i = t
          · subst ci; exact Or.inr ⟨rfl, e2⟩
          · exact Or.inl (Or.inr ⟨by omega, e2, e3⟩)
    · skip
      refine x_iloadn (pc := 2) dX0_joinApart_2 rfl ?_
      refine x_iloadn (pc := 3) dX0_joinApart_3 rfl ?_
      refine x_iadd (pc := 4) dX0_joinApart_4 ?_
      refine x_aloadn (pc := 5) dX0_joinApart_5 rfl ?_
      refine x_getI (pc := 6) dX0_joinApart_6 fl_X0_18 (al_k0 hA) (al_m0 hA hL) ?_
      refine x_cge (tgt := 27) (pc := 9) dX0_joinApart_9 (by decide) (by omega) (fun c_9 => ?_) (fun c_9 => ?_)
      rotate_left
      · skip
        exact absurd c_9 (by omega)
      refine x_rV (pc := 27) dX0_joinApart_27 rfl ?_
      refine ⟨⟨f, mk, hC, fun i => ⟨(hM i).1, zQ.mono (fun i j e => .base (e.elim Or.inl (fun q => Or.inr q.2))) (hM i).2.1, fun j e => ?_⟩⟩, hR, hF⟩
      rcases e with e | e
      · exact (hM i).2.2 j (Or.inl e)
      · exact (hM i).2.2 j (Or.inr ⟨by obtain ⟨e1, e2⟩ := e; omega, e⟩)
theorem c_Al_ja {r n p : Nat} {E : Nat → Nat → Prop} {f mk : Nat → Nat} {L : List Nat} {G : Nat → Nat → Int} (hA : xAl r) (hL : x_SL L) (hF : x_Fin xFL G) (hp : 1 ≤ p ∧ p ≤ 60) (hC : cAl r n f mk G) (hM : zMn E f) :
    CM yX0_joinApart mX0_joinApart 2 0 0 [vR r, vI p] L G (qV L fun G' => (∃ f mk, cAl r n f mk G' ∧ zMn (fun i j => E i j ∨ zPE n p i j) f) ∧ FR [r + 1, r + 2] G G' ∧ x_Fin xFL G') := by
  refine Ct.of_X (μ := mX0_joinApart) rfl rfl (by decide) (fun h => by cases h) (Nat.le_of_ble_eq_true rfl) rfl ?_
  refine x_iconst (pc := 0) dX0_joinApart_0 ?_
  refine x_istoren (pc := 1) dX0_joinApart_1 rfl (by decide) rfl ?_
  exact l_Al_ja hA hL hp n 0 f mk _ (by omega) (by omega) hC (fun i => ⟨(hM i).1, zQ.mono (fun i j e => .base (Or.inl e)) (hM i).2.1, fun j e => e.elim ((hM i).2.2 j) (fun q => absurd q.1 (Nat.not_lt_zero i))⟩) FR.rf hF
/-- how many lead, of the first so many -/
def zld (f : Nat → Nat) : Nat → Nat
  | 0 => 0
  | k + 1 => zld f k + (if f k = k then 1 else 0)
theorem zld_le {f : Nat → Nat} : ∀ k, zld f k ≤ k
  | 0 => Nat.le_refl _
  | k + 1 => by have := zld_le (f := f) k; rw [zld]; split <;> omega
theorem l_Al_ca {r n a : Nat} {f mk : Nat → Nat} {L : List Nat} {G : Nat → Nat → Int} (hA : xAl r) (hL : x_SL L) (hF : x_Fin xFL G) (hC : cAl r n f mk G) (ha : a ≤ n) :
    ∀ (k t : Nat), t + k = a → X mX0_classesAheadOf 0 0 0 (qI L fun x G' => x = zld f a ∧ G' = G) 4 [some (vR r), some (vI a), some (vI (zld f t)), some (vI t)] [] L G 0 0 := by
  obtain ⟨h1, h2, h3, h4⟩ := hC
  intro k
  induction k with
  | zero =>
    intro t ht
    have ht : t = a := by omega
    subst ht
    refine x_iloadn (pc := 4) dX0_classesAheadOf_4 rfl ?_
    refine x_iloadn (pc := 5) dX0_classesAheadOf_5 rfl ?_
    refine x_cge (tgt := 36) (pc := 6) dX0_classesAheadOf_6 (by decide) (by omega) (fun c_6 => ?_) (fun c_6 => ?_)
    rotate_left
    · skip
      exact absurd c_6 (by omega)
    refine x_iloadn (pc := 36) dX0_classesAheadOf_36 rfl ?_
    refine x_rI (pc := 37) dX0_classesAheadOf_37 rfl ?_
    exact ⟨rfl, rfl⟩
  | succ k ih =>
    intro t ht
    have ih2 := ih (t + 1) (by omega)
    rw [show zld f (t + 1) = zld f t + (if f t = t then 1 else 0) from rfl] at ih2
    have hb := zld_le (f := f) t
    have h3t := h3 t (by omega)
    refine x_iloadn (pc := 4) dX0_classesAheadOf_4 rfl ?_
    refine x_iloadn (pc := 5) dX0_classesAheadOf_5 rfl ?_
    refine x_cge (tgt := 36) (pc := 6) dX0_classesAheadOf_6 (by decide) (by omega) (fun c_6 => ?_) (fun c_6 => ?_)
    · skip
      exact absurd c_6 (by omega)
    refine x_iloadn (pc := 9) dX0_classesAheadOf_9 rfl ?_
    refine x_aloadn (pc := 10) dX0_classesAheadOf_10 rfl ?_
    refine x_getI (pc := 11) dX0_classesAheadOf_11 fl_X0_18 (al_k0 hA) (al_m0 hA hL) ?_
    refine x_cge (tgt := 36) (pc := 14) dX0_classesAheadOf_14 (by decide) (by omega) (fun c_14 => ?_) (fun c_14 => ?_)
    · skip
      exact absurd c_14 (by omega)
    refine x_aloadn (pc := 17) dX0_classesAheadOf_17 rfl ?_
    refine x_getR (r + 1) (pc := 18) dX0_classesAheadOf_18 fl_X0_9 (al_k0 hA) (al_m0 hA hL) (al_f0 hA hF) ?_
    refine x_iloadn (pc := 21) dX0_classesAheadOf_21 rfl ?_
    refine x_iald (t) (pc := 22) dX0_classesAheadOf_22 (al_k1 hA) (al_m1 hA hL) (⟨by omega, by omega, by decide⟩) ?_
    refine x_iloadn (pc := 23) dX0_classesAheadOf_23 rfl ?_
    refine x_cne (tgt := 30) (pc := 24) dX0_classesAheadOf_24 (by decide) (by omega) (fun c_24 => ?_) (fun c_24 => ?_)
    · skip
      refine x_iinc (pc := 30) dX0_classesAheadOf_30 rfl (by decide) rfl ?_
      refine x_goto (tgt := 4) (pc := 33) dX0_classesAheadOf_33 (by decide) ?_
      first
      | (rw [if_pos (by omega)] at ih2; exact ih2)
      | (rw [if_neg (by omega)] at ih2; exact ih2)
    · skip
      refine x_iinc (pc := 27) dX0_classesAheadOf_27 rfl (by decide) rfl ?_
      refine x_iinc (pc := 30) dX0_classesAheadOf_30 rfl (by decide) rfl ?_
      refine x_goto (tgt := 4) (pc := 33) dX0_classesAheadOf_33 (by decide) ?_
      first
      | (rw [if_pos (by omega)] at ih2; exact ih2)
      | (rw [if_neg (by omega)] at ih2; exact ih2)
theorem c_Al_ca {r n a : Nat} {f mk : Nat → Nat} {L : List Nat} {G : Nat → Nat → Int} (hA : xAl r) (hL : x_SL L) (hF : x_Fin xFL G) (hC : cAl r n f mk G) (ha : a ≤ n) :
    CM yX0_classesAheadOf mX0_classesAheadOf 0 0 0 [vR r, vI a] L G (qI L fun x G' => x = zld f a ∧ G' = G) := by
  refine Ct.of_X (μ := mX0_classesAheadOf) rfl rfl (by decide) (fun h => by cases h) (Nat.le_of_ble_eq_true rfl) rfl ?_
  refine x_iconst (pc := 0) dX0_classesAheadOf_0 ?_
  refine x_istoren (pc := 1) dX0_classesAheadOf_1 rfl (by decide) rfl ?_
  refine x_iconst (pc := 2) dX0_classesAheadOf_2 ?_
  refine x_istoren (pc := 3) dX0_classesAheadOf_3 rfl (by decide) rfl ?_
  exact l_Al_ca hA hL hF hC ha a 0 (by omega)

