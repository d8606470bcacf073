/-! the reference: how far the end is -/
section XLDm
variable {L : List Nat} {n : Nat} {T : Nat → Int} {B : Nat → Prop}
/-- known below r -/
def zDn (n : Nat) (T : Nat → Int) (B : Nat → Prop) (r : Nat) (x : Int) (k : Nat) : Prop := (x = -1 ∧ ∀ t, t < r → ¬ zPa n T B t k) ∨ ∃ t : Nat, t < r ∧ x = ((t : Nat) : Int) ∧ zPa n T B t k ∧ ∀ t', t' < t → ¬ zPa n T B t' k
theorem zDn.bd {r k : Nat} {x : Int} (h : zDn n T B r x k) : -1 ≤ x ∧ x < r + 1 := by
  rcases h with ⟨h, _⟩ | ⟨t, h1, h2, _⟩ <;> omega
theorem zDn.eq {r k : Nat} {x : Int} (h : zDn n T B (r + 1) x k ∨ zDn n T B (r + 2) x k) : x = ((r : Nat) : Int) ↔ (zPa n T B r k ∧ ∀ t', t' < r → ¬ zPa n T B t' k) := by
  have key : ∀ R, r < R → zDn n T B R x k → (x = ((r : Nat) : Int) ↔ (zPa n T B r k ∧ ∀ t', t' < r → ¬ zPa n T B t' k)) := fun R hR h => by
    rcases h with ⟨h1, h2⟩ | ⟨t, h1, h2, h3, h4⟩
    · exact ⟨fun w => by omega, fun w => absurd w.1 (h2 r hR)⟩
    · constructor
      · intro w
        have e : t = r := by omega
        subst e; exact ⟨h3, h4⟩
      · intro ⟨w1, w2⟩
        rcases Nat.lt_trichotomy t r with c | c | c
        · exact absurd h3 (w2 t c)
        · omega
        · exact absurd w1 (h4 r c)
  exact h.elim (key _ (by omega)) (key _ (by omega))
theorem zDn.keep {r k : Nat} {x : Int} (h : zDn n T B r x k) (hx : x ≠ -1) : zDn n T B (r + 1) x k := by
  rcases h with ⟨h1, _⟩ | ⟨t, h1, h2⟩
  · exact absurd h1 hx
  · exact Or.inr ⟨t, by omega, h2⟩
/-- an edge to one at r -/
def zHit (n : Nat) (T : Nat → Int) (B : Nat → Prop) (r k j : Nat) : Prop := ∃ y : Nat, T (4 * k + j) = ((y : Nat) : Int) ∧ zPa n T B r y ∧ ∀ t', t' < r → ¬ zPa n T B t' y
theorem zDn.none {r k : Nat} (h : zDn n T B (r + 1) (-1) k) (hk : k < n) (hno : ∀ j, j < 4 → ¬ zHit n T B r k j) : zDn n T B (r + 2) (-1) k := by
  rcases h with ⟨_, h⟩ | ⟨t, _, h2, _⟩
  · refine Or.inl ⟨rfl, fun t ht => ?_⟩
    by_cases c : t = r + 1
    · rw [c]
      rintro ⟨_, j, y, hj, hT, hp⟩
      refine hno j hj ⟨y, hT, hp, fun t' h' w => h (t' + 1) (by omega) ⟨hk, j, y, hj, hT, w⟩⟩
    · exact h t (by omega)
  · omega
theorem zDn.hit {r k j : Nat} (h : zDn n T B (r + 1) (-1) k) (hk : k < n) (hj : j < 4) (hh : zHit n T B r k j) : zDn n T B (r + 2) ((r + 1 : Nat) : Int) k := by
  rcases h with ⟨_, h⟩ | ⟨t, _, h2, _⟩
  · obtain ⟨y, h1, h2, h3⟩ := hh
    exact Or.inr ⟨r + 1, by omega, rfl, ⟨hk, j, y, hj, h1, h2⟩, fun t' h' => h t' (by omega)⟩
  · omega
/-- nothing new in a round: all is known -/
theorem zDn.all {r : Nat} {d : Nat → Int} (h : ∀ k, k < n → zDn n T B (r + 1) (d k) k) (hno : ∀ k, k < n → d k = -1 → ∀ j, j < 4 → ¬ zHit n T B r k j) : ∀ k, k < n → zDi n T B (d k) k := by
  have key : ∀ t k, r + 1 ≤ t → zPa n T B t k → ∃ t', t' < r + 1 ∧ zPa n T B t' k := by
    have base : ∀ k, zPa n T B (r + 1) k → ∃ t', t' < r + 1 ∧ zPa n T B t' k := fun k hp => by
      apply Classical.byContradiction
      intro w
      have hk := zPa_lt hp
      have hd : d k = -1 := by
        rcases h k hk with ⟨q, _⟩ | ⟨t, q1, _, q3, _⟩
        · exact q
        · exact absurd ⟨t, q1, q3⟩ w
      obtain ⟨_, j, y, hj, hT, hp2⟩ := hp
      exact hno k hk hd j hj ⟨y, hT, hp2, fun t' h' q => w ⟨t' + 1, by omega, hk, j, y, hj, hT, q⟩⟩
    intro t
    induction t with
    | zero => intro k ht; omega
    | succ t ih =>
      intro k ht hp
      by_cases c : t = r
      · rw [c] at hp; exact base k hp
      · obtain ⟨hk, j, y, hj, hT, hp2⟩ := hp
        obtain ⟨t', t1, t2⟩ := ih y (by omega) hp2
        have hp3 : zPa n T B (t' + 1) k := ⟨hk, j, y, hj, hT, t2⟩
        by_cases c2 : t' = r
        · rw [c2] at hp3; exact base k hp3
        · exact ⟨t' + 1, by omega, hp3⟩
  intro k hk
  rcases h k hk with ⟨q1, q2⟩ | ⟨t, q1, q2, q3, q4⟩
  · refine Or.inl ⟨q1, fun t w => ?_⟩
    rcases Nat.lt_or_ge t (r + 1) with c | c
    · exact q2 t c w
    · obtain ⟨t', t1, t2⟩ := key t k c w
      exact q2 t' t1 t2
  · exact Or.inr ⟨t, q2, q3, q4⟩
/-- how many are known -/
def zKn (d : Nat → Int) : Nat → Nat := fun k => if d k = -1 then 0 else 1
def mTg (n : Nat) (T : Nat → Int) (G : Nat → Nat → Int) : Prop := G 127 33 = ((n : Nat) : Int) ∧ n ≤ 1500 ∧ ∀ e, e < 4 * n → G 151 e = T e
theorem mTg.FM {n : Nat} {T : Nat → Int} {S F : List Nat} {G G' : Nat → Nat → Int} (h : mTg n T G) (k : FM S F G G') (h0 : 127 ∉ S) (h1 : 33 ∉ F) (h2 : 151 ∉ S) : mTg n T G' := by
  obtain ⟨a1, a2, a3⟩ := h
  exact ⟨by rw [k 127 33 h0 (fun _ => h1)]; exact a1, a2, fun e he => by rw [k 151 _ h2 (fun w => absurd w (by decide))]; exact a3 e he⟩
abbrev pLd (L : List Nat) (G0 : Nat → Nat → Int) (n : Nat) (T : Nat → Int) (B : Nat → Prop) : x_Q := qV L fun G' => (∀ k, k < n → zDi n T B (G' 153 k) k ∧ -1 ≤ G' 153 k ∧ G' 153 k < 2000) ∧ FM [153] [] G0 G' ∧ x_Fin xFL G'
/-- node k in round r + 1: from edge j -/
theorem l_mo_ldJ {Q : x_Q} {r k : Nat} {m0 : Int} {G0 : Nat → Nat → Int} (hL : x_SL L) (ht : mTg n T G0) (hT : ∀ e, e < 4 * n → T e = -1 ∨ (0 ≤ T e ∧ T e < n)) (hk : k < n) (hr : r ≤ 2000)
    (hd : ∀ y, y < n → zDn n T B (r + 1) (G0 153 y) y ∨ zDn n T B (r + 2) (G0 153 y) y) (h0 : zDn n T B (r + 1) (G0 153 k) k) (hm0 : m0 = 0 ∨ m0 = 1)
    (contA : ∀ (o5 : Option (Nat × Int)), x_Fin xFL G0 → zDn n T B (r + 2) (G0 153 k) k → (G0 153 k = -1 → ∀ j, j < 4 → ¬ zHit n T B r k j) → X mX12_layDist 0 0 0 Q 122 [some (vR 127), some (vI m0), some (vI ((r + 1 : Nat) : Int)), some (vI k), some (vI 4), o5] [] L G0 0 0)
    (contB : ∀ (o5 : Option (Nat × Int)), G0 153 k = -1 → zDn n T B (r + 2) ((r + 1 : Nat) : Int) k → x_Fin xFL (x_up G0 153 k ((r + 1 : Nat) : Int)) → X mX12_layDist 0 0 0 Q 122 [some (vR 127), some (vI 1), some (vI ((r + 1 : Nat) : Int)), some (vI k), some (vI 4), o5] [] L (x_up G0 153 k ((r + 1 : Nat) : Int)) 0 0) :
    ∀ (q j : Nat) (o5 : Option (Nat × Int)) (G : Nat → Nat → Int) (m1 : Int), j + q = 4 → ((G = G0 ∧ m1 = m0 ∧ (G0 153 k = -1 → ∀ j', j' < j → ¬ zHit n T B r k j')) ∨ (G = x_up G0 153 k ((r + 1 : Nat) : Int) ∧ m1 = 1 ∧ G0 153 k = -1 ∧ zDn n T B (r + 2) ((r + 1 : Nat) : Int) k)) → x_Fin xFL G →
    X mX12_layDist 0 0 0 Q 59 [some (vR 127), some (vI m1), some (vI ((r + 1 : Nat) : Int)), some (vI k), some (vI j), o5] [] L G 0 0 := by
  have hn := ht.2.1
  have hrr : ((r + 1 : Nat) : Int) - 1 = ((r : Nat) : Int) := by omega
  intro q
  induction q with
  | zero =>
    intro j o5 G m1 hj hst hF
    have hj : j = 4 := by omega
    subst hj
    rcases hst with ⟨rfl, rfl, hno⟩ | ⟨rfl, rfl, hm, hz⟩
    · have hfin : zDn n T B (r + 2) (G 153 k) k := by
        by_cases c : G 153 k = -1
        · rw [c] at h0 ⊢; exact h0.none hk (hno c)
        · exact h0.keep c
      refine x_iload (pc := 59) dX12_layDist_59 rfl ?_
      refine x_iconst (pc := 61) dX12_layDist_61 ?_
      refine x_cge (tgt := 122) (pc := 62) dX12_layDist_62 (by decide) (by omega) (fun c_62 => ?_) (fun c_62 => ?_)
      rotate_left
      · skip
        exact absurd c_62 (by decide)
      exact contA _ hF hfin hno
    · skip
      refine x_iload (pc := 59) dX12_layDist_59 rfl ?_
      refine x_iconst (pc := 61) dX12_layDist_61 ?_
      refine x_cge (tgt := 122) (pc := 62) dX12_layDist_62 (by decide) (by omega) (fun c_62 => ?_) (fun c_62 => ?_)
      rotate_left
      · skip
        exact absurd c_62 (by decide)
      exact contB _ hm hz hF
  | succ q ih =>
    intro j o5 G m1 hj hst hF
    have hei : 4 * ((k : Nat) : Int) + ((j : Nat) : Int) = ((4 * k + j : Nat) : Int) := by omega
    have hb0 := h0.bd
    rcases hst with ⟨rfl, rfl, hno⟩ | ⟨rfl, rfl, hm, hz⟩
    · have hTe := ht.2.2 (4 * k + j) (by omega)
      obtain ⟨dk, hdk⟩ : ∃ dk, dk = G 153 k := ⟨_, rfl⟩
      have nxtA : ¬ zHit n T B r k j → (G = G ∧ m1 = m1 ∧ (G 153 k = -1 → ∀ j', j' < j + 1 → ¬ zHit n T B r k j')) := fun w => ⟨rfl, rfl, fun c j' h' => by
        by_cases e : j' = j
        · rw [e]; exact w
        · exact hno c j' (by omega)⟩
      have nxtB : G 153 k ≠ -1 → (G = G ∧ m1 = m1 ∧ (G 153 k = -1 → ∀ j', j' < j + 1 → ¬ zHit n T B r k j')) := fun w => ⟨rfl, rfl, fun c => absurd c w⟩
      rw [← hdk] at hb0
      rcases hT (4 * k + j) (by omega) with t1 | ⟨t1, t2⟩
      · rw [t1] at hTe
        have hnh : ¬ zHit n T B r k j := fun ⟨y, w, _⟩ => by omega
        refine x_iload (pc := 59) dX12_layDist_59 rfl ?_
        refine x_iconst (pc := 61) dX12_layDist_61 ?_
        refine x_cge (tgt := 122) (pc := 62) dX12_layDist_62 (by decide) (by omega) (fun c_62 => ?_) (fun c_62 => ?_)
        · skip
          exact absurd c_62 (by omega)
        refine x_aloadn (pc := 65) dX12_layDist_65 rfl ?_
        refine x_getR (151) (pc := 66) dX12_layDist_66 fl_X12_80 k_127 (hL 127 (by decide) (by decide)) (f_127_29 hF) ?_
        refine x_iconst (pc := 69) dX12_layDist_69 ?_
        refine x_iloadn (pc := 70) dX12_layDist_70 rfl ?_
        refine x_imul (pc := 71) dX12_layDist_71 ?_
        refine x_iload (pc := 72) dX12_layDist_72 rfl ?_
        refine x_iadd (pc := 74) dX12_layDist_74 ?_
        rw [hei]
        refine x_iald (4 * k + j) (pc := 75) dX12_layDist_75 k_151 (hL 151 (by decide) (by decide)) (⟨by omega, by omega, by decide⟩) ?_
        rw [hTe]
        refine x_istore (pc := 76) dX12_layDist_76 (by decide) rfl ?_
        refine x_aloadn (pc := 78) dX12_layDist_78 rfl ?_
        refine x_getR (153) (pc := 79) dX12_layDist_79 fl_X12_87 k_127 (hL 127 (by decide) (by decide)) (f_127_31 hF) ?_
        refine x_iloadn (pc := 82) dX12_layDist_82 rfl ?_
        refine x_iald (k) (pc := 83) dX12_layDist_83 k_153 (hL 153 (by decide) (by decide)) (⟨by omega, by omega, by decide⟩) ?_
        rw [← hdk]
        refine x_iconst (pc := 84) dX12_layDist_84 ?_
        refine x_cne (tgt := 116) (pc := 85) dX12_layDist_85 (by decide) (by omega) (fun c_85 => ?_) (fun c_85 => ?_)
        · skip
          refine x_iinc (pc := 116) dX12_layDist_116 rfl (by decide) rfl ?_
          refine x_goto (tgt := 59) (pc := 119) dX12_layDist_119 (by decide) ?_
          exact ih (j + 1) _ _ _ (by omega) (Or.inl (nxtA hnh)) hF
        · skip
          refine x_iload (pc := 88) dX12_layDist_88 rfl ?_
          refine x_iconst (pc := 90) dX12_layDist_90 ?_
          refine x_ceq (tgt := 116) (pc := 91) dX12_layDist_91 (by decide) (by omega) (fun c_91 => ?_) (fun c_91 => ?_)
          rotate_left
          · skip
            exact absurd rfl c_91
          refine x_iinc (pc := 116) dX12_layDist_116 rfl (by decide) rfl ?_
          refine x_goto (tgt := 59) (pc := 119) dX12_layDist_119 (by decide) ?_
          exact ih (j + 1) _ _ _ (by omega) (Or.inl (nxtA hnh)) hF
      · obtain ⟨y, hy⟩ : ∃ y : Nat, T (4 * k + j) = ((y : Nat) : Int) := ⟨(T (4 * k + j)).toNat, by omega⟩
        rw [hy] at hTe t2
        have hyn : y < n := by omega
        have hdy := hd y hyn
        have hyb : -1 ≤ G 153 y ∧ G 153 y < r + 3 := by
          rcases hdy with w | w
          · have := w.bd; omega
          · have := w.bd; omega
        have heq := zDn.eq hdy
        obtain ⟨dy, hdye⟩ : ∃ dy, dy = G 153 y := ⟨_, rfl⟩
        rw [← hdye] at hyb heq
        have hhit : zHit n T B r k j ↔ dy = ((r : Nat) : Int) := ⟨fun ⟨y', w1, w2⟩ => by
          have e : y' = y := by omega
          rw [e] at w2; exact heq.mpr w2, fun w => ⟨y, hy, heq.mp w⟩⟩
        refine x_iload (pc := 59) dX12_layDist_59 rfl ?_
        refine x_iconst (pc := 61) dX12_layDist_61 ?_
        refine x_cge (tgt := 122) (pc := 62) dX12_layDist_62 (by decide) (by omega) (fun c_62 => ?_) (fun c_62 => ?_)
        · skip
          exact absurd c_62 (by omega)
        refine x_aloadn (pc := 65) dX12_layDist_65 rfl ?_
        refine x_getR (151) (pc := 66) dX12_layDist_66 fl_X12_80 k_127 (hL 127 (by decide) (by decide)) (f_127_29 hF) ?_
        refine x_iconst (pc := 69) dX12_layDist_69 ?_
        refine x_iloadn (pc := 70) dX12_layDist_70 rfl ?_
        refine x_imul (pc := 71) dX12_layDist_71 ?_
        refine x_iload (pc := 72) dX12_layDist_72 rfl ?_
        refine x_iadd (pc := 74) dX12_layDist_74 ?_
        rw [hei]
        refine x_iald (4 * k + j) (pc := 75) dX12_layDist_75 k_151 (hL 151 (by decide) (by decide)) (⟨by omega, by omega, by decide⟩) ?_
        rw [hTe]
        refine x_istore (pc := 76) dX12_layDist_76 (by decide) rfl ?_
        refine x_aloadn (pc := 78) dX12_layDist_78 rfl ?_
        refine x_getR (153) (pc := 79) dX12_layDist_79 fl_X12_87 k_127 (hL 127 (by decide) (by decide)) (f_127_31 hF) ?_
        refine x_iloadn (pc := 82) dX12_layDist_82 rfl ?_
        refine x_iald (k) (pc := 83) dX12_layDist_83 k_153 (hL 153 (by decide) (by decide)) (⟨by omega, by omega, by decide⟩) ?_
        rw [← hdk]
        refine x_iconst (pc := 84) dX12_layDist_84 ?_
        refine x_cne (tgt := 116) (pc := 85) dX12_layDist_85 (by decide) (by omega) (fun c_85 => ?_) (fun c_85 => ?_)
        · skip
          refine x_iinc (pc := 116) dX12_layDist_116 rfl (by decide) rfl ?_
          refine x_goto (tgt := 59) (pc := 119) dX12_layDist_119 (by decide) ?_
          first
          | exact ih (j + 1) _ _ _ (by omega) (Or.inl (nxtB (by rw [← hdk]; omega))) hF
          | exact ih (j + 1) _ _ _ (by omega) (Or.inl (nxtA (fun w => by have := hhit.mp w; omega))) hF
          | (refine ih (j + 1) _ _ _ (by omega) (Or.inr ⟨rfl, rfl, by omega, ?_⟩) hF
             have hm1 : G 153 k = -1 := by omega
             rw [hm1] at h0
             exact h0.hit hk (by omega) (hhit.mpr (by omega)))
        · skip
          refine x_iload (pc := 88) dX12_layDist_88 rfl ?_
          refine x_iconst (pc := 90) dX12_layDist_90 ?_
          refine x_ceq (tgt := 116) (pc := 91) dX12_layDist_91 (by decide) (by omega) (fun c_91 => ?_) (fun c_91 => ?_)
          · skip
            exact absurd c_91 (by omega)
          refine x_aloadn (pc := 94) dX12_layDist_94 rfl ?_
          refine x_getR (153) (pc := 95) dX12_layDist_95 fl_X12_87 k_127 (hL 127 (by decide) (by decide)) (f_127_31 hF) ?_
          refine x_iload (pc := 98) dX12_layDist_98 rfl ?_
          refine x_iald (y) (pc := 100) dX12_layDist_100 k_153 (hL 153 (by decide) (by decide)) (⟨by omega, by omega, by decide⟩) ?_
          rw [← hdye]
          refine x_iloadn (pc := 101) dX12_layDist_101 rfl ?_
          refine x_iconst (pc := 102) dX12_layDist_102 ?_
          refine x_isub (pc := 103) dX12_layDist_103 ?_
          rw [hrr]
          refine x_cne (tgt := 116) (pc := 104) dX12_layDist_104 (by decide) (by omega) (fun c_104 => ?_) (fun c_104 => ?_)
          · skip
            refine x_iinc (pc := 116) dX12_layDist_116 rfl (by decide) rfl ?_
            refine x_goto (tgt := 59) (pc := 119) dX12_layDist_119 (by decide) ?_
            first
            | exact ih (j + 1) _ _ _ (by omega) (Or.inl (nxtB (by rw [← hdk]; omega))) hF
            | exact ih (j + 1) _ _ _ (by omega) (Or.inl (nxtA (fun w => by have := hhit.mp w; omega))) hF
            | (refine ih (j + 1) _ _ _ (by omega) (Or.inr ⟨rfl, rfl, by omega, ?_⟩) hF
               have hm1 : G 153 k = -1 := by omega
               rw [hm1] at h0
               exact h0.hit hk (by omega) (hhit.mpr (by omega)))
          · skip
            refine x_aloadn (pc := 107) dX12_layDist_107 rfl ?_
            refine x_getR (153) (pc := 108) dX12_layDist_108 fl_X12_87 k_127 (hL 127 (by decide) (by decide)) (f_127_31 hF) ?_
            refine x_iloadn (pc := 111) dX12_layDist_111 rfl ?_
            refine x_iloadn (pc := 112) dX12_layDist_112 rfl ?_
            refine x_iastF (k) (pc := 113) dX12_layDist_113 k_153 (hL 153 (by decide) (by decide)) (⟨by omega, by omega, by decide⟩) hF (fun hF => ?_)
            refine x_iconst (pc := 114) dX12_layDist_114 ?_
            refine x_istoren (pc := 115) dX12_layDist_115 rfl (by decide) rfl ?_
            refine x_iinc (pc := 116) dX12_layDist_116 rfl (by decide) rfl ?_
            refine x_goto (tgt := 59) (pc := 119) dX12_layDist_119 (by decide) ?_
            first
            | exact ih (j + 1) _ _ _ (by omega) (Or.inl (nxtB (by rw [← hdk]; omega))) hF
            | exact ih (j + 1) _ _ _ (by omega) (Or.inl (nxtA (fun w => by have := hhit.mp w; omega))) hF
            | (refine ih (j + 1) _ _ _ (by omega) (Or.inr ⟨rfl, rfl, by omega, ?_⟩) hF
               have hm1 : G 153 k = -1 := by omega
               rw [hm1] at h0
               exact h0.hit hk (by omega) (hhit.mpr (by omega)))
    · have hTe : x_up G0 153 k ((r + 1 : Nat) : Int) 151 (4 * k + j) = T (4 * k + j) := by rw [x_up_ne (by decide)]; exact ht.2.2 (4 * k + j) (by omega)
      have hTb : -1 ≤ T (4 * k + j) ∧ T (4 * k + j) < n := by rcases hT (4 * k + j) (by omega) with w | w <;> omega
      refine x_iload (pc := 59) dX12_layDist_59 rfl ?_
      refine x_iconst (pc := 61) dX12_layDist_61 ?_
      refine x_cge (tgt := 122) (pc := 62) dX12_layDist_62 (by decide) (by omega) (fun c_62 => ?_) (fun c_62 => ?_)
      · skip
        exact absurd c_62 (by omega)
      refine x_aloadn (pc := 65) dX12_layDist_65 rfl ?_
      refine x_getR (151) (pc := 66) dX12_layDist_66 fl_X12_80 k_127 (hL 127 (by decide) (by decide)) (f_127_29 hF) ?_
      refine x_iconst (pc := 69) dX12_layDist_69 ?_
      refine x_iloadn (pc := 70) dX12_layDist_70 rfl ?_
      refine x_imul (pc := 71) dX12_layDist_71 ?_
      refine x_iload (pc := 72) dX12_layDist_72 rfl ?_
      refine x_iadd (pc := 74) dX12_layDist_74 ?_
      rw [hei]
      refine x_iald (4 * k + j) (pc := 75) dX12_layDist_75 k_151 (hL 151 (by decide) (by decide)) (⟨by omega, by omega, by decide⟩) ?_
      rw [hTe]
      refine x_istore (pc := 76) dX12_layDist_76 (by decide) rfl ?_
      refine x_aloadn (pc := 78) dX12_layDist_78 rfl ?_
      refine x_getR (153) (pc := 79) dX12_layDist_79 fl_X12_87 k_127 (hL 127 (by decide) (by decide)) (f_127_31 hF) ?_
      refine x_iloadn (pc := 82) dX12_layDist_82 rfl ?_
      refine x_iald (k) (pc := 83) dX12_layDist_83 k_153 (hL 153 (by decide) (by decide)) (⟨by omega, by omega, by decide⟩) ?_
      rw [x_up_s]
      refine x_iconst (pc := 84) dX12_layDist_84 ?_
      refine x_cne (tgt := 116) (pc := 85) dX12_layDist_85 (by decide) (by omega) (fun c_85 => ?_) (fun c_85 => ?_)
      rotate_left
      · skip
        exact absurd c_85 (by omega)
      refine x_iinc (pc := 116) dX12_layDist_116 rfl (by decide) rfl ?_
      refine x_goto (tgt := 59) (pc := 119) dX12_layDist_119 (by decide) ?_
      exact ih (j + 1) _ _ _ (by omega) (Or.inr ⟨rfl, rfl, hm, hz⟩) hF
/-- a round -/
theorem l_mo_ldK {Q : x_Q} {r : Nat} {G0 : Nat → Nat → Int} (hL : x_SL L) (ht : mTg n T G0) (hT : ∀ e, e < 4 * n → T e = -1 ∨ (0 ≤ T e ∧ T e < n)) (hr : r ≤ 2000) (hd0 : ∀ k, k < n → zDn n T B (r + 1) (G0 153 k) k)
    (contA : ∀ (o3 o4 o5 : Option (Nat × Int)), x_Fin xFL G0 → (∀ k, k < n → G0 153 k = -1 → ∀ j, j < 4 → ¬ zHit n T B r k j) → X mX12_layDist 0 0 0 Q 128 [some (vR 127), some (vI 0), some (vI ((r + 1 : Nat) : Int)), o3, o4, o5] [] L G0 0 0)
    (contB : ∀ (G : Nat → Nat → Int) (o3 o4 o5 : Option (Nat × Int)), x_Fin xFL G → FM [153] [] G0 G → (∀ k, k < n → zDn n T B (r + 2) (G 153 k) k) → zhn (zKn (G0 153)) n < zhn (zKn (G 153)) n → X mX12_layDist 0 0 0 Q 128 [some (vR 127), some (vI 1), some (vI ((r + 1 : Nat) : Int)), o3, o4, o5] [] L G 0 0) :
    ∀ (q k : Nat) (G : Nat → Nat → Int) (m1 : Int) (o4 o5 : Option (Nat × Int)), k + q = n → (∀ y, y < k → zDn n T B (r + 2) (G 153 y) y) → (∀ y, k ≤ y → y < n → zDn n T B (r + 1) (G 153 y) y) → FM [153] [] G0 G → ((m1 = 0 ∧ G = G0 ∧ ∀ y, y < k → G0 153 y = -1 → ∀ j, j < 4 → ¬ zHit n T B r y j) ∨ (m1 = 1 ∧ zhn (zKn (G0 153)) n < zhn (zKn (G 153)) n)) → x_Fin xFL G →
    X mX12_layDist 0 0 0 Q 48 [some (vR 127), some (vI m1), some (vI ((r + 1 : Nat) : Int)), some (vI k), o4, o5] [] L G 0 0 := by
  have hn := ht.2.1
  intro q
  induction q with
  | zero =>
    intro k G m1 o4 o5 hk h1 h2 hQ hm hF
    have hk : k = n := by omega
    subst hk
    have ht' := ht.FM hQ (by decide) (by decide) (by decide)
    rcases hm with ⟨rfl, rfl, hno⟩ | ⟨rfl, hm⟩
    · skip
      refine x_iloadn (pc := 48) dX12_layDist_48 rfl ?_
      refine x_aloadn (pc := 49) dX12_layDist_49 rfl ?_
      refine x_getI (pc := 50) dX12_layDist_50 fl_X12_234 k_127 (hL 127 (by decide) (by decide)) ?_
      rw [ht'.1]
      refine x_cge (tgt := 128) (pc := 53) dX12_layDist_53 (by decide) (by omega) (fun c_53 => ?_) (fun c_53 => ?_)
      rotate_left
      · skip
        exact absurd c_53 (by omega)
      exact contA _ _ _ hF hno
    · skip
      refine x_iloadn (pc := 48) dX12_layDist_48 rfl ?_
      refine x_aloadn (pc := 49) dX12_layDist_49 rfl ?_
      refine x_getI (pc := 50) dX12_layDist_50 fl_X12_234 k_127 (hL 127 (by decide) (by decide)) ?_
      rw [ht'.1]
      refine x_cge (tgt := 128) (pc := 53) dX12_layDist_53 (by decide) (by omega) (fun c_53 => ?_) (fun c_53 => ?_)
      rotate_left
      · skip
        exact absurd c_53 (by omega)
      exact contB G _ _ _ hF hQ h1 hm
  | succ q ih =>
    intro k G m1 o4 o5 hk h1 h2 hQ hm hF
    have ht' := ht.FM hQ (by decide) (by decide) (by decide)
    have hm01 : m1 = 0 ∨ m1 = 1 := hm.elim (fun w => Or.inl w.1) (fun w => Or.inr w.1)
    have hd : ∀ y, y < n → zDn n T B (r + 1) (G 153 y) y ∨ zDn n T B (r + 2) (G 153 y) y := fun y hy => (Nat.lt_or_ge y k).elim (fun w => Or.inr (h1 y w)) (fun w => Or.inl (h2 y w hy))
    refine x_iloadn (pc := 48) dX12_layDist_48 rfl ?_
    refine x_aloadn (pc := 49) dX12_layDist_49 rfl ?_
    refine x_getI (pc := 50) dX12_layDist_50 fl_X12_234 k_127 (hL 127 (by decide) (by decide)) ?_
    rw [ht'.1]
    refine x_cge (tgt := 128) (pc := 53) dX12_layDist_53 (by decide) (by omega) (fun c_53 => ?_) (fun c_53 => ?_)
    · skip
      exact absurd c_53 (by omega)
    refine x_iconst (pc := 56) dX12_layDist_56 ?_
    refine x_istore (pc := 57) dX12_layDist_57 (by decide) rfl ?_
    refine l_mo_ldJ hL ht' hT (show k < n by omega) hr hd (h2 k (Nat.le_refl _) (by omega)) hm01 (fun o5 hF b1 b2 => ?_) (fun o5 b1 b2 hF => ?_) 4 0 _ G m1 (Nat.zero_add _) (Or.inl ⟨rfl, rfl, fun _ j' h' => absurd h' (Nat.not_lt_zero j')⟩) hF
    · refine x_iinc (pc := 122) dX12_layDist_122 rfl (by decide) rfl ?_
      refine x_goto (tgt := 48) (pc := 125) dX12_layDist_125 (by decide) ?_
      refine ih (k + 1) G m1 _ _ (by omega) (fun y hy => ?_) (fun y h3 h4 => h2 y (by omega) h4) hQ ?_ hF
      · by_cases c : y = k
        · rw [c]; exact b1
        · exact h1 y (by omega)
      · rcases hm with ⟨w1, w2, w3⟩ | w
        · refine Or.inl ⟨w1, w2, fun y hy => ?_⟩
          by_cases c : y = k
          · rw [c, ← w2]; exact b2
          · exact w3 y (by omega)
        · exact Or.inr w
    · refine x_iinc (pc := 122) dX12_layDist_122 rfl (by decide) rfl ?_
      refine x_goto (tgt := 48) (pc := 125) dX12_layDist_125 (by decide) ?_
      refine ih (k + 1) _ 1 _ _ (by omega) (fun y hy => ?_) (fun y h3 h4 => by rw [x_up_k (by omega)]; exact h2 y (by omega) h4) (hQ.upA (by decide)) (Or.inr ⟨rfl, ?_⟩) hF
      · by_cases c : y = k
        · rw [c, x_up_s]; exact b2
        · rw [x_up_k c]; exact h1 y (by omega)
      · have e := zhn_up (t := zKn (G 153)) (t' := zKn (x_up G 153 k ((r + 1 : Nat) : Int) 153)) (j := k) (by unfold zKn; rw [if_pos b1]) (by unfold zKn; rw [x_up_s, if_neg (by omega)]; decide) (fun i hi => by unfold zKn; rw [x_up_k hi]) n (by omega)
        rcases hm with ⟨_, w2, _⟩ | ⟨_, w⟩
        · rw [w2] at e ⊢; omega
        · omega
theorem l_mo_ldE {r : Nat} {o3 o4 o5 : Option (Nat × Int)} {G0 G : Nat → Nat → Int} (hr : r ≤ 1500) (hF : x_Fin xFL G) (hQ : FM [153] [] G0 G) (hd : ∀ k, k < n → zDn n T B (r + 1) (G 153 k) k) (hno : ∀ k, k < n → G 153 k = -1 → ∀ j, j < 4 → ¬ zHit n T B r k j) :
    X mX12_layDist 0 0 0 (pLd L G0 n T B) 128 [some (vR 127), some (vI 0), some (vI ((r + 1 : Nat) : Int)), o3, o4, o5] [] L G 0 0 := by
  refine x_iinc (pc := 128) dX12_layDist_128 rfl (by decide) rfl ?_
  refine x_goto (tgt := 40) (pc := 131) dX12_layDist_131 (by decide) ?_
  refine x_iloadn (pc := 40) dX12_layDist_40 rfl ?_
  refine x_ieq (tgt := 134) (pc := 41) dX12_layDist_41 (by decide) (by omega) (fun c_41 => ?_) (fun c_41 => ?_)
  rotate_left
  · skip
    exact absurd rfl c_41
  refine x_rV (pc := 134) dX12_layDist_134 rfl ?_
  exact ⟨fun k hk => ⟨zDn.all hd hno k hk, by have := (hd k hk).bd; omega⟩, hQ, hF⟩
theorem l_mo_ldR {G0 : Nat → Nat → Int} (hL : x_SL L) (ht : mTg n T G0) (hT : ∀ e, e < 4 * n → T e = -1 ∨ (0 ≤ T e ∧ T e < n)) :
    ∀ (q r : Nat) (G : Nat → Nat → Int) (o3 o4 o5 : Option (Nat × Int)), r + q = 1500 → n - zhn (zKn (G 153)) n ≤ q → (∀ k, k < n → zDn n T B (r + 1) (G 153 k) k) → FM [153] [] G0 G → x_Fin xFL G →
    X mX12_layDist 0 0 0 (pLd L G0 n T B) 40 [some (vR 127), some (vI 1), some (vI ((r + 1 : Nat) : Int)), o3, o4, o5] [] L G 0 0 := by
  have hn := ht.2.1
  intro q
  induction q with
  | zero =>
    intro r G o3 o4 o5 hr hc hd hQ hF
    have ht' := ht.FM hQ (by decide) (by decide) (by decide)
    refine x_iloadn (pc := 40) dX12_layDist_40 rfl ?_
    refine x_ieq (tgt := 134) (pc := 41) dX12_layDist_41 (by decide) (by omega) (fun c_41 => ?_) (fun c_41 => ?_)
    · skip
      exact absurd c_41 (by decide)
    refine x_iconst (pc := 44) dX12_layDist_44 ?_
    refine x_istoren (pc := 45) dX12_layDist_45 rfl (by decide) rfl ?_
    refine x_iconst (pc := 46) dX12_layDist_46 ?_
    refine x_istoren (pc := 47) dX12_layDist_47 rfl (by decide) rfl ?_
    refine l_mo_ldK hL ht' hT (by omega) hd (fun o3 o4 o5 hF b1 => ?_) (fun G2 o3 o4 o5 hF b1 b2 b3 => ?_) n 0 G 0 _ _ (Nat.zero_add _) (fun y hy => absurd hy (Nat.not_lt_zero y)) (fun y _ h4 => hd y h4) FM.rf (Or.inl ⟨rfl, rfl, fun y hy => absurd hy (Nat.not_lt_zero y)⟩) hF
    · exact l_mo_ldE (by omega) hF hQ hd b1
    · have := zhn_le (t := zKn (G2 153)) n
      omega
  | succ q ih =>
    intro r G o3 o4 o5 hr hc hd hQ hF
    have ht' := ht.FM hQ (by decide) (by decide) (by decide)
    refine x_iloadn (pc := 40) dX12_layDist_40 rfl ?_
    refine x_ieq (tgt := 134) (pc := 41) dX12_layDist_41 (by decide) (by omega) (fun c_41 => ?_) (fun c_41 => ?_)
    · skip
      exact absurd c_41 (by decide)
    refine x_iconst (pc := 44) dX12_layDist_44 ?_
    refine x_istoren (pc := 45) dX12_layDist_45 rfl (by decide) rfl ?_
    refine x_iconst (pc := 46) dX12_layDist_46 ?_
    refine x_istoren (pc := 47) dX12_layDist_47 rfl (by decide) rfl ?_
    refine l_mo_ldK hL ht' hT (by omega) hd (fun o3 o4 o5 hF b1 => ?_) (fun G2 o3 o4 o5 hF b1 b2 b3 => ?_) n 0 G 0 _ _ (Nat.zero_add _) (fun y hy => absurd hy (Nat.not_lt_zero y)) (fun y _ h4 => hd y h4) FM.rf (Or.inl ⟨rfl, rfl, fun y hy => absurd hy (Nat.not_lt_zero y)⟩) hF
    · exact l_mo_ldE (by omega) hF hQ hd b1
    · refine x_iinc (pc := 128) dX12_layDist_128 rfl (by decide) rfl ?_
      refine x_goto (tgt := 40) (pc := 131) dX12_layDist_131 (by decide) ?_
      exact ih (r + 1) G2 _ _ _ (by omega) (by omega) b2 (hQ.tr b1) hF
theorem l_mo_ld2 {G0 : Nat → Nat → Int} (hL : x_SL L) (ht : mTg n T G0) (hT : ∀ e, e < 4 * n → T e = -1 ∨ (0 ≤ T e ∧ T e < n)) (hma : ∀ k, k < n → 0 ≤ G0 150 k ∧ G0 150 k < 1000 ∧ (G0 150 k = 0 ↔ B k)) :
    ∀ (q k : Nat) (G : Nat → Nat → Int) (o2 o3 o4 o5 : Option (Nat × Int)), k + q = n → (∀ y, y < k → zDn n T B 1 (G 153 y) y) → FM [153] [] G0 G → x_Fin xFL G →
    X mX12_layDist 0 0 0 (pLd L G0 n T B) 2 [some (vR 127), some (vI k), o2, o3, o4, o5] [] L G 0 0 := by
  have hn := ht.2.1
  intro q
  induction q with
  | zero =>
    intro k G o2 o3 o4 o5 hk hd hQ hF
    have hk : k = n := by omega
    subst hk
    have ht' := ht.FM hQ (by decide) (by decide) (by decide)
    refine x_iloadn (pc := 2) dX12_layDist_2 rfl ?_
    refine x_aloadn (pc := 3) dX12_layDist_3 rfl ?_
    refine x_getI (pc := 4) dX12_layDist_4 fl_X12_234 k_127 (hL 127 (by decide) (by decide)) ?_
    rw [ht'.1]
    refine x_cge (tgt := 36) (pc := 7) dX12_layDist_7 (by decide) (by omega) (fun c_7 => ?_) (fun c_7 => ?_)
    rotate_left
    · skip
      exact absurd c_7 (by omega)
    refine x_iconst (pc := 36) dX12_layDist_36 ?_
    refine x_istoren (pc := 37) dX12_layDist_37 rfl (by decide) rfl ?_
    refine x_iconst (pc := 38) dX12_layDist_38 ?_
    refine x_istoren (pc := 39) dX12_layDist_39 rfl (by decide) rfl ?_
    exact l_mo_ldR hL ht hT 1500 0 G _ _ _ (by omega) (by omega) hd hQ hF
  | succ q ih =>
    intro k G o2 o3 o4 o5 hk hd hQ hF
    have ht' := ht.FM hQ (by decide) (by decide) (by decide)
    obtain ⟨m1, m2, m3⟩ := hma k (by omega)
    have hmk : G 150 k = G0 150 k := by rw [hQ _ _ (by decide) (fun e => absurd e (by decide))]
    obtain ⟨a, ha⟩ : ∃ a, a = G0 150 k := ⟨_, rfl⟩
    rw [← ha] at m1 m2 m3 hmk
    have nx : ∀ z : Int, zDn n T B 1 z k → ∀ y, y < k + 1 → zDn n T B 1 (x_up G 153 k z 153 y) y := fun z hz y hy => by
      by_cases c : y = k
      · rw [c, x_up_s]; exact hz
      · rw [x_up_k c]; exact hd y (by omega)
    refine x_iloadn (pc := 2) dX12_layDist_2 rfl ?_
    refine x_aloadn (pc := 3) dX12_layDist_3 rfl ?_
    refine x_getI (pc := 4) dX12_layDist_4 fl_X12_234 k_127 (hL 127 (by decide) (by decide)) ?_
    rw [ht'.1]
    refine x_cge (tgt := 36) (pc := 7) dX12_layDist_7 (by decide) (by omega) (fun c_7 => ?_) (fun c_7 => ?_)
    · skip
      exact absurd c_7 (by omega)
    refine x_aloadn (pc := 10) dX12_layDist_10 rfl ?_
    refine x_getR (153) (pc := 11) dX12_layDist_11 fl_X12_87 k_127 (hL 127 (by decide) (by decide)) (f_127_31 hF) ?_
    refine x_iloadn (pc := 14) dX12_layDist_14 rfl ?_
    refine x_aloadn (pc := 15) dX12_layDist_15 rfl ?_
    refine x_getR (150) (pc := 16) dX12_layDist_16 fl_X12_77 k_127 (hL 127 (by decide) (by decide)) (f_127_28 hF) ?_
    refine x_iloadn (pc := 19) dX12_layDist_19 rfl ?_
    refine x_iald (k) (pc := 20) dX12_layDist_20 k_150 (hL 150 (by decide) (by decide)) (⟨by omega, by omega, by decide⟩) ?_
    rw [hmk]
    refine x_ine (tgt := 28) (pc := 21) dX12_layDist_21 (by decide) (by omega) (fun c_21 => ?_) (fun c_21 => ?_)
    · skip
      refine x_iconst (pc := 28) dX12_layDist_28 ?_
      refine x_iastF (k) (pc := 29) dX12_layDist_29 k_153 (hL 153 (by decide) (by decide)) (⟨by omega, by omega, by decide⟩) hF (fun hF => ?_)
      refine x_iinc (pc := 30) dX12_layDist_30 rfl (by decide) rfl ?_
      refine x_goto (tgt := 2) (pc := 33) dX12_layDist_33 (by decide) ?_
      first
      | exact ih (k + 1) _ _ _ _ _ (by omega) (nx _ (Or.inr ⟨0, by decide, rfl, ⟨by omega, m3.mp (by omega)⟩, fun t' h' => absurd h' (Nat.not_lt_zero t')⟩)) (hQ.upA (by decide)) hF
      | exact ih (k + 1) _ _ _ _ _ (by omega) (nx _ (Or.inl ⟨rfl, fun t h' w => by rw [show t = 0 by omega] at w; have := m3.mpr w.2; omega⟩)) (hQ.upA (by decide)) hF
    · skip
      refine x_iconst (pc := 24) dX12_layDist_24 ?_
      refine x_goto (tgt := 29) (pc := 25) dX12_layDist_25 (by decide) ?_
      refine x_iastF (k) (pc := 29) dX12_layDist_29 k_153 (hL 153 (by decide) (by decide)) (⟨by omega, by omega, by decide⟩) hF (fun hF => ?_)
      refine x_iinc (pc := 30) dX12_layDist_30 rfl (by decide) rfl ?_
      refine x_goto (tgt := 2) (pc := 33) dX12_layDist_33 (by decide) ?_
      first
      | exact ih (k + 1) _ _ _ _ _ (by omega) (nx _ (Or.inr ⟨0, by decide, rfl, ⟨by omega, m3.mp (by omega)⟩, fun t' h' => absurd h' (Nat.not_lt_zero t')⟩)) (hQ.upA (by decide)) hF
      | exact ih (k + 1) _ _ _ _ _ (by omega) (nx _ (Or.inl ⟨rfl, fun t h' w => by rw [show t = 0 by omega] at w; have := m3.mpr w.2; omega⟩)) (hQ.upA (by decide)) hF
theorem c_mo_layDist {G : Nat → Nat → Int} (hL : x_SL L) (hF : x_Fin xFL G) (ht : mTg n T G) (hT : ∀ e, e < 4 * n → T e = -1 ∨ (0 ≤ T e ∧ T e < n)) (hma : ∀ k, k < n → 0 ≤ G 150 k ∧ G 150 k < 1000 ∧ (G 150 k = 0 ↔ B k)) :
    CM yX12_layDist mX12_layDist 0 0 0 [vR 127] L G (pLd L G n T B) := by
  refine Ct.of_X (μ := mX12_layDist) rfl rfl (by decide) (fun h => by cases h) (Nat.le_of_ble_eq_true rfl) rfl ?_
  refine x_iconst (pc := 0) dX12_layDist_0 ?_
  refine x_istoren (pc := 1) dX12_layDist_1 rfl (by decide) rfl ?_
  exact l_mo_ld2 hL ht hT hma n 0 G _ _ _ _ (Nat.zero_add _) (fun y hy => absurd hy (Nat.not_lt_zero y)) FM.rf hF
end XLDm

