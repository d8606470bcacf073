/-! the reference: the chain, a putting -/
section XLC2
variable {L : List Nat} {s0 : zSt}
theorem zBd0_u {x y : Nat} (hx : zBd0 s0 x) (hy : zBd0 s0 y) : x = y := by
  rw [← zix_un _ _ _ (zN_nd 6000) hx, ← zix_un _ _ _ (zN_nd 6000) hy]
theorem zBd0_dn {D : Nat} (h : zBd0 s0 D) : zdn (zN s0 6000) = ((D : Nat) : Int) ∧ D < (zN s0 6000).length := by
  refine ⟨?_, (List.getElem?_eq_some_iff.mp h).1⟩
  unfold zdn
  rw [if_pos (List.mem_of_getElem? h), zix_un _ _ _ (zN_nd 6000) h]
theorem zdn_or : zdn (zN s0 6000) = -1 ∧ (∀ x, ¬ zBd0 s0 x) ∨ ∃ D : Nat, zdn (zN s0 6000) = ((D : Nat) : Int) ∧ zBd0 s0 D := by
  by_cases c : ([], []) ∈ zN s0 6000
  · obtain ⟨D, hD⟩ := List.getElem?_of_mem c
    exact Or.inr ⟨D, (zBd0_dn hD).1, hD⟩
  · refine Or.inl ⟨by unfold zdn; rw [if_neg c], fun x hx => c (List.mem_of_getElem? hx)⟩
/-- the end is met -/
def zEd (s0 : zSt) (D m : Nat) : Prop := zdn (zN s0 6000) = ((D : Nat) : Int) ∧ m = zml (zcb s0) D D
theorem zEd_fn {D m D' m' : Nat} (h : zEd s0 D m) (h' : zEd s0 D' m') : D = D' ∧ m = m' := by
  have e : D = D' := by have := h.1; have := h'.1; omega
  subst e
  exact ⟨rfl, h.2.trans h'.2.symm⟩
theorem zEd.ch {D m : Nat} (hl : (zN s0 6000).length ≤ 1500) (h : zEd s0 D m) : zBd0 s0 D ∧ zCh (zN s0 6000).length (zcb s0) D m ∧ m ≤ D := by
  have hB : zBd0 s0 D := by
    rcases zdn_or (s0 := s0) with ⟨w, _⟩ | ⟨D', w, hB⟩
    · have := h.1; omega
    · have e : D' = D := by have := h.1; omega
      rw [← e]; exact hB
  obtain ⟨c1, c2⟩ := zCh.mk' (zGr_N hl) (zBd0_dn hB).2
  rw [h.2]
  exact ⟨hB, c1, c2⟩
theorem zEd_of {D : Nat} (h : zBd0 s0 D) : zEd s0 D (zml (zcb s0) D D) := ⟨(zBd0_dn h).1, rfl⟩
theorem zno_le (h : ∀ x, ¬ zBd0 s0 x) : ∀ t x, ¬ zPa (zN s0 6000).length (ztg s0) (zBd0 s0) t x := zPa_no (fun x _ => h x)
theorem zdi_0 {d : Int} (hl : (zN s0 6000).length ≤ 1500) (h : zDi (zN s0 6000).length (ztg s0) (zBd0 s0) d 0) : (d = -1 ∧ zdn (zN s0 6000) = -1) ∨ ∃ D m, zEd s0 D m ∧ d = ((m : Nat) : Int) := by
  rcases zdn_or (s0 := s0) with ⟨w, hno⟩ | ⟨D, w, hB⟩
  · refine Or.inl ⟨?_, w⟩
    rcases h with ⟨q, _⟩ | ⟨t, _, q, _⟩
    · exact q
    · exact absurd q (zno_le hno t 0)
  · have hE := zEd_of hB
    obtain ⟨_, c1, c2⟩ := hE.ch hl
    have hd := c1.di (zGr_N hl) hB (fun x _ hx => zBd0_u hx hB) (Nat.le_refl _)
    rw [c1.2.1] at hd
    exact Or.inr ⟨D, _, hE, zDi_un h hd⟩
abbrev pLc (L : List Nat) (G0 : Nat → Nat → Int) (s0 : zSt) (D m : Nat) : x_Q := qI L fun x G' => x = ((m : Nat) : Int) ∧ (∀ i, i < m → G' 158 i = ((zcd (zcb s0) D (m - i) : Nat) : Int) ∧ G' 159 i = ((zcb s0 (zcd (zcb s0) D (m - 1 - i)) % 4 : Nat) : Int)) ∧ FM [158, 159] [] G0 G' ∧ x_Fin xFL G'
/-- the first putting on a shortest way -/
theorem l_mo_lcJ {Q : x_Q} {D m t i : Nat} {G : Nat → Nat → Int} (hL : x_SL L) (hF : x_Fin xFL G) (hl : (zN s0 6000).length ≤ 1500) (hg : mGf s0 G) (hE : zEd s0 D m) (ht : t < m)
    (cont : X mX12_layChain 0 0 0 Q 61 [some (vR 127), some (vI i), some (vI ((zcd (zcb s0) D (t + 1) : Nat) : Int)), some (vI ((zcb s0 (zcd (zcb s0) D t) % 4 : Nat) : Int))] [] L G 0 0) :
    ∀ (r j : Nat), j + r = zcb s0 (zcd (zcb s0) D t) % 4 → X mX12_layChain 0 0 0 Q 15 [some (vR 127), some (vI i), some (vI ((zcd (zcb s0) D (t + 1) : Nat) : Int)), some (vI j)] [] L G 0 0 := by
  obtain ⟨hB, hc, hm⟩ := hE.ch hl
  have hGr := zGr_N hl
  have hDn := hc.1
  have hlt := hc.lt hGr (t + 1) (by omega)
  have hlt2 := hc.lt hGr t (by omega)
  have hne := hc.2.2 t ht
  have hu := fun (x : Nat) (_ : x < (zN s0 6000).length) (hx : zBd0 s0 x) => zBd0_u hx hB
  have hd1 : G 153 (zcd (zcb s0) D (t + 1)) = ((t + 1 : Nat) : Int) := zDi_un (hg.2.2 _ hlt).1 (hc.di hGr hB hu (by omega))
  have hd0 : G 153 (zcd (zcb s0) D t) = ((t : Nat) : Int) := zDi_un (hg.2.2 _ hlt2).1 (hc.di hGr hB hu (by omega))
  have hT := hGr.1
  have hcb := (hGr.2.1 (zcd (zcb s0) D t) (by omega) hlt2).1
  have hnd : zcd (zcb s0) D (t + 1) = zcb s0 (zcd (zcb s0) D t) / 4 := rfl
  have hgr := fun (_ : Unit) j y hj hTy hdy => hc.gr (B := zBd0 s0) (T := ztg s0) (t := t) (j := j) (y := y) hGr hu ht hj hTy hdy
  have hnx : ∀ e, e < 4 * (zN s0 6000).length → G 151 e = ztg s0 e := fun e he => (hg.2.1 e he).1
  have hdd := fun y hy => (hg.2.2 y hy).1
  have hdb := fun y hy => (hg.2.2 y hy).2
  obtain ⟨nd, hnde⟩ : ∃ nd, nd = zcd (zcb s0) D (t + 1) := ⟨_, rfl⟩
  obtain ⟨c0, hc0⟩ : ∃ c0, c0 = zcd (zcb s0) D t := ⟨_, rfl⟩
  rw [← hnde] at hlt hd1 hnd hgr cont ⊢
  rw [← hc0] at hlt2 hne hd0 hcb hnd hgr cont ⊢
  obtain ⟨e, hee⟩ : ∃ e, e = zcb s0 c0 := ⟨_, rfl⟩
  rw [← hee] at hcb hnd hgr cont ⊢
  intro r
  induction r with
  | zero =>
    intro j hj
    have hej : 4 * nd + j = e := by omega
    have hei : 4 * ((nd : Nat) : Int) + ((j : Nat) : Int) = ((4 * nd + j : Nat) : Int) := by omega
    have hne2 := hnx (4 * nd + j) (by omega)
    rw [hej, hcb] at hne2
    have hj4 : j = e % 4 := by omega
    rw [← hj4] at cont
    rw [hej] at hei
    refine x_aloadn (pc := 15) dX12_layChain_15 rfl ?_
    refine x_getR (151) (pc := 16) dX12_layChain_16 fl_X12_80 k_127 (hL 127 (by decide) (by decide)) (f_127_29 hF) ?_
    refine x_iconst (pc := 19) dX12_layChain_19 ?_
    refine x_iloadn (pc := 20) dX12_layChain_20 rfl ?_
    refine x_imul (pc := 21) dX12_layChain_21 ?_
    refine x_iloadn (pc := 22) dX12_layChain_22 rfl ?_
    refine x_iadd (pc := 23) dX12_layChain_23 ?_
    rw [hei]
    refine x_iald (e) (pc := 24) dX12_layChain_24 k_151 (hL 151 (by decide) (by decide)) (⟨by omega, by omega, by decide⟩) ?_
    rw [hne2]
    refine x_iconst (pc := 25) dX12_layChain_25 ?_
    refine x_ceq (tgt := 55) (pc := 26) dX12_layChain_26 (by decide) (by omega) (fun c_26 => ?_) (fun c_26 => ?_)
    · skip
      exact absurd c_26 (by omega)
    refine x_aloadn (pc := 29) dX12_layChain_29 rfl ?_
    refine x_getR (153) (pc := 30) dX12_layChain_30 fl_X12_87 k_127 (hL 127 (by decide) (by decide)) (f_127_31 hF) ?_
    refine x_aloadn (pc := 33) dX12_layChain_33 rfl ?_
    refine x_getR (151) (pc := 34) dX12_layChain_34 fl_X12_80 k_127 (hL 127 (by decide) (by decide)) (f_127_29 hF) ?_
    refine x_iconst (pc := 37) dX12_layChain_37 ?_
    refine x_iloadn (pc := 38) dX12_layChain_38 rfl ?_
    refine x_imul (pc := 39) dX12_layChain_39 ?_
    refine x_iloadn (pc := 40) dX12_layChain_40 rfl ?_
    refine x_iadd (pc := 41) dX12_layChain_41 ?_
    rw [hei]
    refine x_iald (e) (pc := 42) dX12_layChain_42 k_151 (hL 151 (by decide) (by decide)) (⟨by omega, by omega, by decide⟩) ?_
    rw [hne2]
    refine x_iald (c0) (pc := 43) dX12_layChain_43 k_153 (hL 153 (by decide) (by decide)) (⟨by omega, by omega, by decide⟩) ?_
    rw [hd0]
    refine x_aloadn (pc := 44) dX12_layChain_44 rfl ?_
    refine x_getR (153) (pc := 45) dX12_layChain_45 fl_X12_87 k_127 (hL 127 (by decide) (by decide)) (f_127_31 hF) ?_
    refine x_iloadn (pc := 48) dX12_layChain_48 rfl ?_
    refine x_iald (nd) (pc := 49) dX12_layChain_49 k_153 (hL 153 (by decide) (by decide)) (⟨by omega, by omega, by decide⟩) ?_
    rw [hd1]
    refine x_iconst (pc := 50) dX12_layChain_50 ?_
    refine x_isub (pc := 51) dX12_layChain_51 ?_
    refine x_ceq (tgt := 61) (pc := 52) dX12_layChain_52 (by decide) (by omega) (fun c_52 => ?_) (fun c_52 => ?_)
    rotate_left
    · skip
      exact absurd (by omega) c_52
    exact cont
  | succ r ih =>
    intro j hj
    have hei : 4 * ((nd : Nat) : Int) + ((j : Nat) : Int) = ((4 * nd + j : Nat) : Int) := by omega
    have hne2 := hnx (4 * nd + j) (by omega)
    rcases hT (4 * nd + j) (by omega) with t1 | ⟨t1, t2⟩
    · rw [t1] at hne2
      refine x_aloadn (pc := 15) dX12_layChain_15 rfl ?_
      refine x_getR (151) (pc := 16) dX12_layChain_16 fl_X12_80 k_127 (hL 127 (by decide) (by decide)) (f_127_29 hF) ?_
      refine x_iconst (pc := 19) dX12_layChain_19 ?_
      refine x_iloadn (pc := 20) dX12_layChain_20 rfl ?_
      refine x_imul (pc := 21) dX12_layChain_21 ?_
      refine x_iloadn (pc := 22) dX12_layChain_22 rfl ?_
      refine x_iadd (pc := 23) dX12_layChain_23 ?_
      rw [hei]
      refine x_iald (4 * nd + j) (pc := 24) dX12_layChain_24 k_151 (hL 151 (by decide) (by decide)) (⟨by omega, by omega, by decide⟩) ?_
      rw [hne2]
      refine x_iconst (pc := 25) dX12_layChain_25 ?_
      refine x_ceq (tgt := 55) (pc := 26) dX12_layChain_26 (by decide) (by omega) (fun c_26 => ?_) (fun c_26 => ?_)
      rotate_left
      · skip
        exact absurd rfl c_26
      refine x_iinc (pc := 55) dX12_layChain_55 rfl (by decide) rfl ?_
      refine x_goto (tgt := 15) (pc := 58) dX12_layChain_58 (by decide) ?_
      exact ih (j + 1) (by omega)
    · obtain ⟨y, hy⟩ : ∃ y : Nat, ztg s0 (4 * nd + j) = ((y : Nat) : Int) := ⟨(ztg s0 (4 * nd + j)).toNat, by omega⟩
      rw [hy] at hne2 t2
      have hyn : y < (zN s0 6000).length := by omega
      have hyd : G 153 y ≠ ((t : Nat) : Int) := fun w => by
        have hz := hdd y hyn
        rw [w] at hz
        exact hgr () j y (by omega) hy hz
      have hyb := hdb y hyn
      refine x_aloadn (pc := 15) dX12_layChain_15 rfl ?_
      refine x_getR (151) (pc := 16) dX12_layChain_16 fl_X12_80 k_127 (hL 127 (by decide) (by decide)) (f_127_29 hF) ?_
      refine x_iconst (pc := 19) dX12_layChain_19 ?_
      refine x_iloadn (pc := 20) dX12_layChain_20 rfl ?_
      refine x_imul (pc := 21) dX12_layChain_21 ?_
      refine x_iloadn (pc := 22) dX12_layChain_22 rfl ?_
      refine x_iadd (pc := 23) dX12_layChain_23 ?_
      rw [hei]
      refine x_iald (4 * nd + j) (pc := 24) dX12_layChain_24 k_151 (hL 151 (by decide) (by decide)) (⟨by omega, by omega, by decide⟩) ?_
      rw [hne2]
      refine x_iconst (pc := 25) dX12_layChain_25 ?_
      refine x_ceq (tgt := 55) (pc := 26) dX12_layChain_26 (by decide) (by omega) (fun c_26 => ?_) (fun c_26 => ?_)
      · skip
        exact absurd c_26 (by omega)
      refine x_aloadn (pc := 29) dX12_layChain_29 rfl ?_
      refine x_getR (153) (pc := 30) dX12_layChain_30 fl_X12_87 k_127 (hL 127 (by decide) (by decide)) (f_127_31 hF) ?_
      refine x_aloadn (pc := 33) dX12_layChain_33 rfl ?_
      refine x_getR (151) (pc := 34) dX12_layChain_34 fl_X12_80 k_127 (hL 127 (by decide) (by decide)) (f_127_29 hF) ?_
      refine x_iconst (pc := 37) dX12_layChain_37 ?_
      refine x_iloadn (pc := 38) dX12_layChain_38 rfl ?_
      refine x_imul (pc := 39) dX12_layChain_39 ?_
      refine x_iloadn (pc := 40) dX12_layChain_40 rfl ?_
      refine x_iadd (pc := 41) dX12_layChain_41 ?_
      rw [hei]
      refine x_iald (4 * nd + j) (pc := 42) dX12_layChain_42 k_151 (hL 151 (by decide) (by decide)) (⟨by omega, by omega, by decide⟩) ?_
      rw [hne2]
      refine x_iald (y) (pc := 43) dX12_layChain_43 k_153 (hL 153 (by decide) (by decide)) (⟨by omega, by omega, by decide⟩) ?_
      refine x_aloadn (pc := 44) dX12_layChain_44 rfl ?_
      refine x_getR (153) (pc := 45) dX12_layChain_45 fl_X12_87 k_127 (hL 127 (by decide) (by decide)) (f_127_31 hF) ?_
      refine x_iloadn (pc := 48) dX12_layChain_48 rfl ?_
      refine x_iald (nd) (pc := 49) dX12_layChain_49 k_153 (hL 153 (by decide) (by decide)) (⟨by omega, by omega, by decide⟩) ?_
      rw [hd1]
      refine x_iconst (pc := 50) dX12_layChain_50 ?_
      refine x_isub (pc := 51) dX12_layChain_51 ?_
      refine x_ceq (tgt := 61) (pc := 52) dX12_layChain_52 (by decide) (by omega) (fun c_52 => ?_) (fun c_52 => ?_)
      · skip
        exact absurd (by omega) hyd
      refine x_iinc (pc := 55) dX12_layChain_55 rfl (by decide) rfl ?_
      refine x_goto (tgt := 15) (pc := 58) dX12_layChain_58 (by decide) ?_
      exact ih (j + 1) (by omega)
theorem l_mo_lcI {D m : Nat} {G0 : Nat → Nat → Int} (hL : x_SL L) (hl : (zN s0 6000).length ≤ 1500) (hg : mGf s0 G0) (hE : zEd s0 D m) :
    ∀ (t i : Nat) (G : Nat → Nat → Int) (o3 : Option (Nat × Int)), i + t = m → (∀ i', i' < i → G 158 i' = ((zcd (zcb s0) D (m - i') : Nat) : Int) ∧ G 159 i' = ((zcb s0 (zcd (zcb s0) D (m - 1 - i')) % 4 : Nat) : Int)) → FM [158, 159] [] G0 G → x_Fin xFL G →
    X mX12_layChain 0 0 0 (pLc L G0 s0 D m) 4 [some (vR 127), some (vI i), some (vI ((zcd (zcb s0) D t : Nat) : Int)), o3] [] L G 0 0 := by
  obtain ⟨hB, hc, hm⟩ := hE.ch hl
  have hGr := zGr_N hl
  have hDn := hc.1
  have hu := fun (x : Nat) (_ : x < (zN s0 6000).length) (hx : zBd0 s0 x) => zBd0_u hx hB
  intro t
  induction t with
  | zero =>
    intro i G o3 hi hst hQ hF
    have hi : i = m := by omega
    subst hi
    have hd : G 153 (zcd (zcb s0) D 0) = ((0 : Nat) : Int) := by
      rw [hQ _ _ (by decide) (fun w => absurd w (by decide))]
      exact zDi_un (hg.2.2 _ hDn).1 (hc.di hGr hB hu (Nat.zero_le _))
    have hz : zcd (zcb s0) D 0 = D := rfl
    rw [hz] at hd ⊢
    refine x_aloadn (pc := 4) dX12_layChain_4 rfl ?_
    refine x_getR (153) (pc := 5) dX12_layChain_5 fl_X12_87 k_127 (hL 127 (by decide) (by decide)) (f_127_31 hF) ?_
    refine x_iloadn (pc := 8) dX12_layChain_8 rfl ?_
    refine x_iald (D) (pc := 9) dX12_layChain_9 k_153 (hL 153 (by decide) (by decide)) (⟨by omega, by omega, by decide⟩) ?_
    rw [hd]
    refine x_ile (tgt := 92) (pc := 10) dX12_layChain_10 (by decide) (by omega) (fun c_10 => ?_) (fun c_10 => ?_)
    rotate_left
    · skip
      exact absurd c_10 (by decide)
    refine x_iloadn (pc := 92) dX12_layChain_92 rfl ?_
    refine x_rI (pc := 93) dX12_layChain_93 rfl ?_
    exact ⟨rfl, hst, hQ, hF⟩
  | succ t ih =>
    intro i G o3 hi hst hQ hF
    have hlt := hc.lt hGr (t + 1) (by omega)
    have hlt2 := hc.lt hGr t (by omega)
    have hne := hc.2.2 t (by omega)
    have hd : G 153 (zcd (zcb s0) D (t + 1)) = ((t + 1 : Nat) : Int) := by
      rw [hQ _ _ (by decide) (fun w => absurd w (by decide))]
      exact zDi_un (hg.2.2 _ hlt).1 (hc.di hGr hB hu (by omega))
    have hg' : mGf s0 G := by
      obtain ⟨g1, g2, g3⟩ := hg
      refine ⟨g1.FM hQ (by decide) (by decide) (by decide) (by decide) (by decide) (by decide), fun e he => ?_, fun k hk => ?_⟩
      · rw [hQ 151 _ (by decide) (fun w => absurd w (by decide)), hQ 152 _ (by decide) (fun w => absurd w (by decide))]; exact g2 e he
      · rw [hQ 153 _ (by decide) (fun w => absurd w (by decide))]; exact g3 k hk
    have hcb := (hGr.2.1 (zcd (zcb s0) D t) (by omega) hlt2).1
    have hnd : zcd (zcb s0) D (t + 1) = zcb s0 (zcd (zcb s0) D t) / 4 := rfl
    have hnx := (hg'.2.1 (zcb s0 (zcd (zcb s0) D t)) (by omega)).1
    rw [hcb] at hnx
    have hei : 4 * ((zcd (zcb s0) D (t + 1) : Nat) : Int) + ((zcb s0 (zcd (zcb s0) D t) % 4 : Nat) : Int) = ((zcb s0 (zcd (zcb s0) D t) : Nat) : Int) := by omega
    have hmi : m - i = t + 1 := by omega
    have hmi2 : m - 1 - i = t := by omega
    have fin : X mX12_layChain 0 0 0 (pLc L G0 s0 D m) 61 [some (vR 127), some (vI i), some (vI ((zcd (zcb s0) D (t + 1) : Nat) : Int)), some (vI ((zcb s0 (zcd (zcb s0) D t) % 4 : Nat) : Int))] [] L G 0 0 := by
      refine x_aloadn (pc := 61) dX12_layChain_61 rfl ?_
      refine x_getR (158) (pc := 62) dX12_layChain_62 fl_X12_102 k_127 (hL 127 (by decide) (by decide)) (f_127_42 hF) ?_
      refine x_iloadn (pc := 65) dX12_layChain_65 rfl ?_
      refine x_iloadn (pc := 66) dX12_layChain_66 rfl ?_
      refine x_iastF (i) (pc := 67) dX12_layChain_67 k_158 (hL 158 (by decide) (by decide)) (⟨by omega, by omega, by decide⟩) hF (fun hF => ?_)
      refine x_aloadn (pc := 68) dX12_layChain_68 rfl ?_
      refine x_getR (159) (pc := 69) dX12_layChain_69 fl_X12_105 k_127 (hL 127 (by decide) (by decide)) (f_127_43 hF) ?_
      refine x_iloadn (pc := 72) dX12_layChain_72 rfl ?_
      refine x_iloadn (pc := 73) dX12_layChain_73 rfl ?_
      refine x_iastF (i) (pc := 74) dX12_layChain_74 k_159 (hL 159 (by decide) (by decide)) (⟨by omega, by omega, by decide⟩) hF (fun hF => ?_)
      refine x_aloadn (pc := 75) dX12_layChain_75 rfl ?_
      refine x_getR (151) (pc := 76) dX12_layChain_76 fl_X12_80 k_127 (hL 127 (by decide) (by decide)) (f_127_29 hF) ?_
      refine x_iconst (pc := 79) dX12_layChain_79 ?_
      refine x_iloadn (pc := 80) dX12_layChain_80 rfl ?_
      refine x_imul (pc := 81) dX12_layChain_81 ?_
      refine x_iloadn (pc := 82) dX12_layChain_82 rfl ?_
      refine x_iadd (pc := 83) dX12_layChain_83 ?_
      rw [hei]
      refine x_iald (zcb s0 (zcd (zcb s0) D t)) (pc := 84) dX12_layChain_84 k_151 (hL 151 (by decide) (by decide)) (⟨by omega, by omega, by decide⟩) ?_
      rw [x_up_ne (by decide), x_up_ne (by decide), hnx]
      refine x_istoren (pc := 85) dX12_layChain_85 rfl (by decide) rfl ?_
      refine x_iinc (pc := 86) dX12_layChain_86 rfl (by decide) rfl ?_
      refine x_goto (tgt := 4) (pc := 89) dX12_layChain_89 (by decide) ?_
      refine ih (i + 1) _ _ (by omega) (fun i' h' => ?_) ((hQ.upA (by decide)).upA (by decide)) hF
      rw [x_up_ne (show 158 ≠ 159 by decide)]
      by_cases c : i' = i
      · rw [c, x_up_s, x_up_s, hmi, hmi2]; exact ⟨rfl, rfl⟩
      · rw [x_up_k c, x_up_k c, x_up_ne (by decide)]; exact hst i' (by omega)
    refine x_aloadn (pc := 4) dX12_layChain_4 rfl ?_
    refine x_getR (153) (pc := 5) dX12_layChain_5 fl_X12_87 k_127 (hL 127 (by decide) (by decide)) (f_127_31 hF) ?_
    refine x_iloadn (pc := 8) dX12_layChain_8 rfl ?_
    refine x_iald (zcd (zcb s0) D (t + 1)) (pc := 9) dX12_layChain_9 k_153 (hL 153 (by decide) (by decide)) (⟨by omega, by omega, by decide⟩) ?_
    rw [hd]
    refine x_ile (tgt := 92) (pc := 10) dX12_layChain_10 (by decide) (by omega) (fun c_10 => ?_) (fun c_10 => ?_)
    · skip
      exact absurd c_10 (by omega)
    refine x_iconst (pc := 13) dX12_layChain_13 ?_
    refine x_istoren (pc := 14) dX12_layChain_14 rfl (by decide) rfl ?_
    exact l_mo_lcJ hL hF hl hg' hE (by omega) fin (zcb s0 (zcd (zcb s0) D t) % 4) 0 (Nat.zero_add _)
theorem c_mo_layChain {D m : Nat} {G : Nat → Nat → Int} (hL : x_SL L) (hF : x_Fin xFL G) (hl : (zN s0 6000).length ≤ 1500) (hg : mGf s0 G) (hE : zEd s0 D m) :
    CM yX12_layChain mX12_layChain 0 0 0 [vR 127] L G (pLc L G s0 D m) := by
  obtain ⟨hB, hc, hm⟩ := hE.ch hl
  refine Ct.of_X (μ := mX12_layChain) rfl rfl (by decide) (fun h => by cases h) (Nat.le_of_ble_eq_true rfl) rfl ?_
  refine x_iconst (pc := 0) dX12_layChain_0 ?_
  refine x_istoren (pc := 1) dX12_layChain_1 rfl (by decide) rfl ?_
  refine x_iconst (pc := 2) dX12_layChain_2 ?_
  refine x_istoren (pc := 3) dX12_layChain_3 rfl (by decide) rfl ?_
  have e := l_mo_lcI hL hl hg hE m 0 G none (Nat.zero_add _) (fun i' h' => absurd h' (Nat.not_lt_zero i')) FM.rf hF
  rw [hc.2.1] at e
  exact e
end XLC2
def zPuP (S : Nat → Nat) (I : Nat → Nat → Nat) (i e : Nat) (x : Int) : Prop := (zdn (zN (zsk (zs0 S I e)) 6000) = -1 ∧ x = -1) ∨ ∃ D m, zEd (zsk (zs0 S I e)) D m ∧ x = if i < m then ((zcb (zsk (zs0 S I e)) (zcd (zcb (zsk (zs0 S I e))) D (m - 1 - i)) % 4 : Nat) : Int) else -1
theorem zPuP_fn {S : Nat → Nat} {I : Nat → Nat → Nat} {i : Nat} (e : Nat) (x y : Int) (hx : zPuP S I i e x) (hy : zPuP S I i e y) : x = y := by
  rcases hx with ⟨h1, h2⟩ | ⟨D, m, h1, h2⟩ <;> rcases hy with ⟨k1, k2⟩ | ⟨D', m', k1, k2⟩
  · omega
  · have := k1.1; omega
  · have := h1.1; omega
  · obtain ⟨rfl, rfl⟩ := zEd_fn h1 k1
    rw [h2, k2]
section XPM
variable {L : List Nat} {m : Nat} {S : Nat → Nat} {I : Nat → Nat → Nat}
theorem l_mo_puE {s0 : zSt} {D mm i : Nat} {e0 w3 : Int} {G0 G : Nat → Nat → Int} {P : Int → Prop} (hL : x_SL L) (hF : x_Fin xFL G) (hl : (zN s0 6000).length ≤ 1500) (hg : mGf s0 G) (hE : zEd s0 D mm) (hQ : FM z_cS2 z_cF G0 G) (hi : ((i : Nat) : Int) < 2147483648) (hP : ∀ y : Int, y = (if i < mm then ((zcb s0 (zcd (zcb s0) D (mm - 1 - i)) % 4 : Nat) : Int) else -1) → P y) :
    X mX12_putting 3 0 0 (pMm L G0 z_cS2 P) 42 [some (vR 127), some (vI e0), some (vI i), some (vI w3)] [vR 127, vI i] L G 0 0 := by
  obtain ⟨hB, hc, hm⟩ := hE.ch hl
  have hDn := hc.1
  refine x_cVI (pc := 42) dX12_putting_42 lk_X12_280 (c_mo_layChain hL hF hl hg hE) k_127 ⟨by decide, rfl⟩ (hL 127 (by decide) (by decide)) (⟨by decide, by decide⟩) (Nat.le_of_ble_eq_true rfl) rfl ?_
  rintro x G2 ⟨rfl, k1, k2, hF⟩
  refine x_cge (tgt := 57) (pc := 45) dX12_putting_45 (by decide) (by omega) (fun c_45 => ?_) (fun c_45 => ?_)
  · skip
    refine x_iconst (pc := 57) dX12_putting_57 ?_
    refine x_rI (pc := 58) dX12_putting_58 rfl ?_
    refine ⟨hP _ ?_, hQ.tr (k2.mono (by decide) (by decide)), hF⟩
    first
    | rw [if_pos (by omega)]
    | rw [if_neg (by omega)]
  · skip
    have hk := (k1 i (by omega)).2
    refine x_aloadn (pc := 48) dX12_putting_48 rfl ?_
    refine x_getR (159) (pc := 49) dX12_putting_49 fl_X12_105 k_127 (hL 127 (by decide) (by decide)) (f_127_43 hF) ?_
    refine x_iloadn (pc := 52) dX12_putting_52 rfl ?_
    refine x_iald (i) (pc := 53) dX12_putting_53 k_159 (hL 159 (by decide) (by decide)) (⟨by omega, by omega, by decide⟩) ?_
    rw [hk]
    refine x_goto (tgt := 58) (pc := 54) dX12_putting_54 (by decide) ?_
    refine x_rI (pc := 58) dX12_putting_58 rfl ?_
    refine ⟨hP _ ?_, hQ.tr (k2.mono (by decide) (by decide)), hF⟩
    first
    | rw [if_pos (by omega)]
    | rw [if_neg (by omega)]
theorem c_mo_putting {e0 i : Int} {G : Nat → Nat → Int} (hL : x_SL L) (hF : x_Fin xFL G) (hE : mEq m S I G) (he0 : -2147483648 ≤ e0 ∧ e0 < 2147483648) (hi0 : -2147483648 ≤ i ∧ i < 2147483648) :
    CM yX12_putting mX12_putting 3 0 0 [vR 127, vI e0, vI i] L G (pMm L G z_cS2 (fun x => (¬ (0 ≤ e0 ∧ e0 < m) ∧ x = -2) ∨ ((0 ≤ e0 ∧ e0 < m) ∧ ((i < 0 ∧ x = -3) ∨ (0 ≤ i ∧ zCP m S I (zPuP S I i.toNat) e0 x))))) := by
  have hm4 := hE.2.1
  refine Ct.of_X (μ := mX12_putting) rfl rfl (by decide) (fun h => by cases h) (Nat.le_of_ble_eq_true rfl) rfl ?_
  refine x_aloadn (pc := 0) dX12_putting_0 rfl ?_
  refine x_iloadn (pc := 1) dX12_putting_1 rfl ?_
  refine x_cVI (pc := 2) dX12_putting_2 lk_X12_157 (c_mo_isEquation hL hF hE he0) k_127 ⟨by decide, rfl⟩ (hL 127 (by decide) (by decide)) (⟨by decide, by decide⟩) (Nat.le_of_ble_eq_true rfl) rfl ?_
  rintro x G' ⟨rfl, h_G⟩
  obtain rfl := h_G.symm
  refine x_ine (tgt := 11) (pc := 5) dX12_putting_5 (by decide) (by split <;> omega) (fun c_5 => ?_) (fun c_5 => ?_)
  · skip
    have hem : 0 ≤ e0 ∧ e0 < m := by split at c_5 <;> omega
    refine x_iloadn (pc := 11) dX12_putting_11 rfl ?_
    refine x_ige (tgt := 18) (pc := 12) dX12_putting_12 (by decide) (by omega) (fun c_12 => ?_) (fun c_12 => ?_)
    · skip
      obtain ⟨i, rfl⟩ : ∃ j : Nat, i = j := ⟨i.toNat, by omega⟩
      refine x_aloadn (pc := 18) dX12_putting_18 rfl ?_
      refine x_iloadn (pc := 19) dX12_putting_19 rfl ?_
      refine x_cVI (pc := 20) dX12_putting_20 lk_X12_274 (c_mo_chase hL hF hE he0) k_127 ⟨by decide, rfl⟩ (hL 127 (by decide) (by decide)) (⟨by decide, by decide⟩) (Nat.le_of_ble_eq_true rfl) rfl ?_
      rintro x G2 ⟨hx, hQ, hF⟩
      have hxb := zChP_bd hx
      have hno := fun (_ : Unit) w => zChP_no (P := zPuP S I i) hx w
      have hok := fun (_ : Unit) w => zChP_ok hx w
      refine x_istoren (pc := 23) dX12_putting_23 rfl (by decide) rfl ?_
      refine x_iloadn (pc := 24) dX12_putting_24 rfl ?_
      refine x_ieq (tgt := 30) (pc := 25) dX12_putting_25 (by decide) (by omega) (fun c_25 => ?_) (fun c_25 => ?_)
      · skip
        obtain ⟨e, h1, h2, h3, h4, h5, h6⟩ := hok () (by omega)
        have h0 := zN_pos (s0 := zsk (zs0 S I e)) 6000
        have hd0 := h5.2.2 0 (by omega)
        have hdi := fun (_ : Unit) => zdi_0 h4 hd0.1
        have hdb := hd0.2
        have wrap : ∀ y, zPuP S I i e y → (¬ (0 ≤ e0 ∧ e0 < m) ∧ y = -2) ∨ ((0 ≤ e0 ∧ e0 < m) ∧ ((((i : Nat) : Int) < 0 ∧ y = -3) ∨ (0 ≤ ((i : Nat) : Int) ∧ zCP m S I (zPuP S I ((i : Nat) : Int).toNat) e0 y))) := fun y hy => Or.inr ⟨hem, Or.inr ⟨by omega, by rw [Int.toNat_natCast]; exact Or.inr ⟨e, h1, h2, Or.inr ⟨h3, Or.inr ⟨h4, hy⟩⟩⟩⟩⟩
        refine x_aloadn (pc := 30) dX12_putting_30 rfl ?_
        refine x_getR (153) (pc := 31) dX12_putting_31 fl_X12_87 k_127 (hL 127 (by decide) (by decide)) (f_127_31 hF) ?_
        refine x_iconst (pc := 34) dX12_putting_34 ?_
        refine x_iald 0 (pc := 35) dX12_putting_35 k_153 (hL 153 (by decide) (by decide)) (by decide) ?_
        refine x_iconst (pc := 36) dX12_putting_36 ?_
        refine x_ceq (tgt := 57) (pc := 37) dX12_putting_37 (by decide) (by omega) (fun c_37 => ?_) (fun c_37 => ?_)
        · skip
          refine x_iconst (pc := 57) dX12_putting_57 ?_
          refine x_rI (pc := 58) dX12_putting_58 rfl ?_
          refine ⟨wrap (-1) ?_, hQ.mono (by decide) (by decide), hF⟩
          rcases hdi () with ⟨_, w⟩ | ⟨D, mm, w, w2⟩
          · exact Or.inl ⟨w, rfl⟩
          · exact absurd c_37 (by omega)
        · skip
          refine x_iloadn (pc := 40) dX12_putting_40 rfl ?_
          refine x_aloadn (pc := 41) dX12_putting_41 rfl ?_
          rcases hdi () with ⟨w, _⟩ | ⟨D, mm, hEd, w2⟩
          · exact absurd w c_37
          · exact l_mo_puE hL hF h4 h5 hEd (hQ.mono (by decide) (by decide)) hi0.2 (fun y hy => wrap y (Or.inr ⟨D, mm, hEd, hy⟩))
      · skip
        refine x_iloadn (pc := 28) dX12_putting_28 rfl ?_
        refine x_rI (pc := 29) dX12_putting_29 rfl ?_
        exact ⟨Or.inr ⟨hem, Or.inr ⟨by omega, by rw [Int.toNat_natCast]; exact hno () (by omega)⟩⟩, hQ.mono (by decide) (by decide), hF⟩
    · skip
      refine x_bipush (pc := 15) dX12_putting_15 (by decide) ?_
      refine x_rI (pc := 17) dX12_putting_17 rfl ?_
      exact ⟨Or.inr ⟨hem, Or.inl ⟨by omega, rfl⟩⟩, FM.rf, hF⟩
  · skip
    refine x_bipush (pc := 8) dX12_putting_8 (by decide) ?_
    refine x_rI (pc := 10) dX12_putting_10 rfl ?_
    exact ⟨Or.inl ⟨by split at c_5 <;> omega, rfl⟩, FM.rf, hF⟩
end XPM

