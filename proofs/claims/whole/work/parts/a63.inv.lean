/-! what stands between two calls -/
abbrev FMM (A F : List Nat) (G G' : Nat → Nat → Int) : Prop := FM A F G G'
theorem FM.fr {A F : List Nat} {G G' : Nat → Nat → Int} (k : FM A F G G') : FR (127 :: A) G G' := fun i hi => funext fun j => k i j (fun w => hi (List.mem_cons_of_mem _ w)) (fun e => absurd (e ▸ List.mem_cons_self) hi)
theorem FM.fr0 {A : List Nat} {G G' : Nat → Nat → Int} (k : FM A [] G G') : FR A G G' := fun i hi => funext fun j => k i j hi (fun _ => List.not_mem_nil)
theorem FR.fm {A F : List Nat} {G G' : Nat → Nat → Int} (k : FR A G G') : FM A F G G' := fun r j h _ => congrFun (k r h) j
theorem FM.cell {A F : List Nat} {G G' : Nat → Nat → Int} (k : FM A F G G') {r : Nat} (h : r ∉ A) (h2 : r ≠ 127) : G' r = G r := funext fun j => k r j h (fun e => absurd e h2)
theorem FQ.fr {T : List Nat} {lo hi : Nat} {G G' : Nat → Nat → Int} (k : FQ T lo hi G G') : FR (T ++ (List.range (hi - lo)).map fun j => lo + j) G G' := fun i h => k i (fun w => h (List.mem_append_left _ w)) (by
  by_cases c : i < lo
  · exact Or.inl c
  · by_cases c2 : hi ≤ i
    · exact Or.inr c2
    · exact absurd (List.mem_append_right _ (List.mem_map.mpr ⟨i - lo, List.mem_range.mpr (by omega), by omega⟩)) h)
theorem cTx.FR {n : Nat} {b : Nat → Nat} {T : List Nat} {G G' : Nat → Nat → Int} (h : cTx n b G) (k : FR T G G') (h1 : 2 ∉ T) (h2 : 3 ∉ T) : cTx n b G' :=
  ⟨by rw [k _ h1]; exact h.1, h.2.1, fun i hi => by rw [k _ h2]; exact h.2.2 i hi⟩
theorem cTd.FR {tw : Nat → Int} {tn : Nat → Nat} {T : List Nat} {G G' : Nat → Nat → Int} (h : cTd tw tn G) (k : FR T G G') (h1 : 50 ∉ T) (h2 : 51 ∉ T) : cTd tw tn G' := fun u hu => by
  rw [k _ h1, k _ h2]; exact h u hu
theorem cDk.FR {dn : Nat → Nat} {dl : Nat → Nat → Nat} {T : List Nat} {G G' : Nat → Nat → Int} (h : cDk dn dl G) (k : FR T G G') (hT : ∀ i, i ∈ T → i ∉ z_dkS) : cDk dn dl G' := fun i hi => by
  obtain ⟨a1, a2, a3⟩ := h i hi
  have n1 : 99 + 7 * i ∉ T := fun w => hT _ w (by simp only [List.mem_cons, List.not_mem_nil, or_false]; omega)
  have n2 : 99 + 7 * i + 1 ∉ T := fun w => hT _ w (by simp only [List.mem_cons, List.not_mem_nil, or_false]; omega)
  exact ⟨by rw [k _ n1]; exact a1, a2, fun j hj => by rw [k _ n2]; exact a3 j hj⟩
theorem cPt.FR {pn : Nat → Nat} {pl : Nat → Nat → Nat} {T : List Nat} {G G' : Nat → Nat → Int} (h : cPt pn pl G) (k : FR T G G') (hT : ∀ i, i ∈ T → i = 2 ∨ i ∉ z_ptS) : cPt pn pl G' := fun i hi => by
  have nn : ∀ q, q = 101 + 7 * i ∨ q = 101 + 7 * i + 1 ∨ q = 101 + 7 * i + 2 → q ∉ T := fun q hq w => by
    rcases hT _ w with c | c
    · omega
    · exact c (by simp only [List.mem_cons, List.not_mem_nil, or_false]; omega)
  exact (h i hi).FR k (nn _ (Or.inl rfl)) (nn _ (Or.inr (Or.inl rfl))) (nn _ (Or.inr (Or.inr rfl)))
abbrev z_smS : List Nat := [88, 90, 91, 92, 93, 94, 95, 96]
theorem cSm.FR {s : Nat} {sn : Nat → Nat} {sl : Nat → Nat → Nat} {T : List Nat} {G G' : Nat → Nat → Int} (h : cSm s sn sl G) (k : FR T G G') (hT : ∀ i, i ∈ T → i ∉ z_smS) : cSm s sn sl G' := by
  have n1 : 88 ∉ T := fun w => hT _ w (by decide)
  have n2 : 96 ∉ T := fun w => hT _ w (by decide)
  refine ⟨by rw [k _ n1]; exact h.1, h.2.1, fun i hi => ?_⟩
  have h6 := h.2.1
  obtain ⟨a1, a2, a3, a4⟩ := h.2.2 i hi
  have n3 : 90 + i ∉ T := fun w => hT _ w (by simp only [List.mem_cons, List.not_mem_nil, or_false]; omega)
  exact ⟨by rw [k _ n2]; exact a1, a2, a3, fun j hj => by rw [k _ n3]; exact a4 j hj⟩
theorem cSo.FR {s : Nat} {sn : Nat → Nat} {sl : Nat → Nat → Nat} {T : List Nat} {G G' : Nat → Nat → Int} (h : cSo s sn sl G) (k : FR T G G') (h1 : 88 ∉ T) (h2 : 98 ∉ T) : cSo s sn sl G' := by
  unfold cSo
  rw [k _ h1, k _ h2]
  exact h
theorem cAr.FR {L T : List Nat} {G G' : Nat → Nat → Int} (h : cAr L G) (k : FR T G G') (h1 : 46 ∉ T) : cAr L G' := by
  unfold cAr cRW
  rw [k _ h1]
  exact h
section XIV
variable {L : List Nat} {m : Nat} {S : Nat → Nat} {I : Nat → Nat → Nat} {lo hi mk : Nat → Nat}
theorem cSuv.FR {T : List Nat} {G G' : Nat → Nat → Int} (h : cSuv L m S I lo hi mk G) (k : FR T G G') (h1 : 46 ∉ T) (h2 : 167 ∉ T) (h3 : 168 ∉ T) (h4 : 54 ∉ T) : cSuv L m S I lo hi mk G' := by
  refine ⟨by rw [k _ h1]; exact h.1, fun w => ?_⟩
  rw [k _ h1] at w
  obtain ⟨a1, a2⟩ := h.2 w
  exact ⟨by unfold cRW; rw [k _ h1]; exact a1, a2.FR k h1 h2 h3 h4⟩
theorem cAr.gr {L' : List Nat} {G : Nat → Nat → Int} (h : cAr L G) (g : x_gr L L') : cAr L' G := by
  have e : ∀ i, i < 169 → (i ∈ L' ↔ i ∈ L) := fun i hi => ⟨fun w => by
    rcases g.2 i w with c | c
    · exact c
    · omega, g.1 i⟩
  unfold cAr cRW at h ⊢
  rw [e 167 (by decide), e 168 (by decide)]
  exact h
theorem cSuv.gr {L' : List Nat} {G : Nat → Nat → Int} (h : cSuv L m S I lo hi mk G) (g : x_gr L L') : cSuv L' m S I lo hi mk G := ⟨h.1, fun w => ⟨⟨⟨g.1 _ (h.2 w).1.1.1, g.1 _ (h.2 w).1.1.2⟩, (h.2 w).1.2⟩, (h.2 w).2⟩⟩
/-! the reference's parts -/
theorem mTx.Fk {n : Nat} {b : Nat → Nat} {A F : List Nat} {G G' : Nat → Nat → Int} (h : mTx n b G) (k : FMM A F G G') (h0 : 127 ∉ A) (h1 : 1 ∉ F) (h2 : 128 ∉ A) : mTx n b G' :=
  ⟨by rw [k 127 1 h0 (fun _ => h1)]; exact h.1, h.2.1, fun i hi => by rw [k.cell h2 (by decide)]; exact h.2.2 i hi⟩
theorem mEq.Fk {A F : List Nat} {G G' : Nat → Nat → Int} (h : mEq m S I G) (k : FMM A F G G') (h0 : 127 ∉ A) (h1 : 4 ∉ F) (h2 : 130 ∉ A) (h3 : 129 ∉ A) : mEq m S I G' :=
  ⟨by rw [k 127 4 h0 (fun _ => h1)]; exact h.1, h.2.1, fun q hq => ⟨by rw [k.cell h2 (by decide)]; exact (h.2.2 q hq).1, (h.2.2 q hq).2.1, fun j hj => by rw [k.cell h3 (by decide)]; exact (h.2.2 q hq).2.2 j hj⟩⟩
theorem mBd.Fk {A F : List Nat} {G G' : Nat → Nat → Int} (h : mBd lo hi mk G) (k : FMM A F G G') (h1 : 131 ∉ A) (h2 : 132 ∉ A) (h3 : 133 ∉ A) : mBd lo hi mk G' := fun u hu => by
  rw [k.cell h1 (by decide), k.cell h2 (by decide), k.cell h3 (by decide)]; exact h u hu
theorem mTd.Fk {tw : Nat → Int} {tn : Nat → Nat} {A F : List Nat} {G G' : Nat → Nat → Int} (h : mTd tw tn G) (k : FMM A F G G') (h1 : 134 ∉ A) (h2 : 135 ∉ A) : mTd tw tn G' := fun u hu => by
  rw [k.cell h1 (by decide), k.cell h2 (by decide)]; exact h u hu
theorem mDk.Fk {dn : Nat → Nat} {dl : Nat → Nat → Nat} {A F : List Nat} {G G' : Nat → Nat → Int} (h : mDk dn dl G) (k : FMM A F G G') (h1 : 136 ∉ A) (h2 : 137 ∉ A) : mDk dn dl G' := fun i hi => by
  rw [k.cell h1 (by decide), k.cell h2 (by decide)]; exact h i hi
theorem mPt.Fk {pn : Nat → Nat} {pl : Nat → Nat → Nat} {A F : List Nat} {G G' : Nat → Nat → Int} (h : mPt pn pl G) (k : FMM A F G G') (h1 : 138 ∉ A) (h2 : 139 ∉ A) : mPt pn pl G' := fun i hi => by
  rw [k.cell h1 (by decide), k.cell h2 (by decide)]; exact h i hi
theorem mSm.Fk {s : Nat} {sn : Nat → Nat} {sl : Nat → Nat → Nat} {A F : List Nat} {G G' : Nat → Nat → Int} (h : mSm s sn sl G) (k : FMM A F G G') (h0 : 127 ∉ A) (h1 : 17 ∉ F) (h2 : 141 ∉ A) (h3 : 140 ∉ A) : mSm s sn sl G' :=
  ⟨by rw [k 127 17 h0 (fun _ => h1)]; exact h.1, h.2.1, fun i hi => ⟨by rw [k.cell h2 (by decide)]; exact (h.2.2 i hi).1, (h.2.2 i hi).2.1, (h.2.2 i hi).2.2.1, fun j hj => by rw [k.cell h3 (by decide)]; exact (h.2.2 i hi).2.2.2 j hj⟩⟩
end XIV
/-! the invariant, by groups -/
def iT (G : Nat → Nat → Int) : Prop := ∃ n b, cTx n b G ∧ mTx n b G
def iE (L : List Nat) (G : Nat → Nat → Int) : Prop := ∃ m S I lo hi mk, cEq m S I G ∧ mEq m S I G ∧ cBd lo hi mk G ∧ mBd lo hi mk G ∧ cSuv L m S I lo hi mk G ∧ cCh L m S I G
def iH (G : Nat → Nat → Int) : Prop := ∃ tw tn, cTd tw tn G ∧ mTd tw tn G
def iD (G : Nat → Nat → Int) : Prop := ∃ dn dl, cDk dn dl G ∧ mDk dn dl G
def iP (G : Nat → Nat → Int) : Prop := ∃ pn pl, cPt pn pl G ∧ mPt pn pl G
def iS (G : Nat → Nat → Int) : Prop := ∃ s sn sl, cSm s sn sl G ∧ mSm s sn sl G ∧ cSo s sn sl G
def zInv (L : List Nat) (G : Nat → Nat → Int) : Prop := iT G ∧ iE L G ∧ iH G ∧ iD G ∧ iP G ∧ iS G ∧ cAr L G ∧ x_Fin xFL G ∧ x_SL L
def zdj (B A : List Nat) : Bool := B.all fun i => !A.contains i
theorem zdj_n {B A : List Nat} (h : zdj B A = true) {r : Nat} (hr : r ∈ B) : r ∉ A := fun w => by
  have := List.all_eq_true.mp h r hr
  rw [List.contains_iff_mem.mpr w] at this
  cases this
theorem zdj_a {B A : List Nat} (h : zdj B A = true) : ∀ i, i ∈ A → i ∉ B := fun _ hi w => zdj_n h w hi
abbrev z_gT : List Nat := [2, 3, 127, 128]
abbrev z_gE : List Nat := [4, 5, 6, 7, 8, 9, 10, 11, 12, 13, 14, 15, 16, 17, 18, 19, 20, 21, 22, 23, 24, 25, 26, 27, 28, 29, 30, 31, 32, 33, 34, 35, 36, 37, 38, 39, 40, 41, 42, 43, 44, 45, 46, 47, 48, 49, 54, 167, 168, 127, 129, 130, 131, 132, 133] ++ z_fT
abbrev z_gH : List Nat := [50, 51, 134, 135, 127]
abbrev z_gD : List Nat := [136, 137, 127] ++ z_dkS
abbrev z_gP : List Nat := [138, 139, 127, 101, 102, 103, 108, 109, 110, 115, 116, 117, 122, 123, 124]
abbrev z_gS : List Nat := [98, 140, 141, 127] ++ z_smS
section XIK
variable {A F : List Nat} {L : List Nat} {G G' : Nat → Nat → Int}
theorem z_cons {B A : List Nat} (h : zdj B A = true) {r : Nat} (hr : r ∈ B) (h2 : r ≠ 127) : r ∉ 127 :: A := fun w => by
  rcases List.mem_cons.mp w with w | w
  · exact h2 w
  · exact zdj_n h hr w
theorem iT.k (h : iT G) (k : FM A F G G') (d : zdj z_gT A = true) (f : zdj [1] F = true) : iT G' := by
  obtain ⟨n, b, h1, h2⟩ := h
  exact ⟨n, b, h1.FR k.fr (z_cons d (by decide) (by decide)) (z_cons d (by decide) (by decide)), h2.Fk k (zdj_n d (by decide)) (zdj_n f (by decide)) (zdj_n d (by decide))⟩
theorem z_eqT (d : zdj z_gE A = true) : ∀ i, i ∈ 127 :: A → i < 4 ∨ 46 ≤ i := fun i hi => by
  rcases List.mem_cons.mp hi with w | w
  · omega
  · by_cases c : i < 4 ∨ 46 ≤ i
    · exact c
    · exact absurd w (zdj_n d (List.mem_append_left _ (by simp only [List.mem_cons, List.not_mem_nil, or_false]; omega)))
theorem z_chT (d : zdj z_gE A = true) : ∀ i, i ∈ 127 :: A → i ∉ z_fT := fun i hi => by
  rcases List.mem_cons.mp hi with w | w
  · rw [w]; decide
  · exact fun q => zdj_n d (List.mem_append_right _ q) w
theorem iE.k (h : iE L G) (k : FM A F G G') (d : zdj z_gE A = true) (f : zdj [4] F = true) : iE L G' := by
  obtain ⟨m, S, I, lo, hi, mk, h1, h2, h3, h4, h5, h6⟩ := h
  have nn : ∀ r, r ∈ z_gE → r ≠ 127 → r ∉ 127 :: A := fun r h1 h2 => z_cons d h1 h2
  exact ⟨m, S, I, lo, hi, mk, cEq.FR h1 k.fr (z_eqT d), h2.Fk k (zdj_n d (by decide)) (zdj_n f (by decide)) (zdj_n d (by decide)) (zdj_n d (by decide)),
    cBd.FR h3 k.fr (nn _ (by decide) (by decide)) (nn _ (by decide) (by decide)) (nn _ (by decide) (by decide)), h4.Fk k (zdj_n d (by decide)) (zdj_n d (by decide)) (zdj_n d (by decide)),
    h5.FR k.fr (nn _ (by decide) (by decide)) (nn _ (by decide) (by decide)) (nn _ (by decide) (by decide)) (nn _ (by decide) (by decide)), h6.FR (fun _ w => w) (fun _ w => Or.inl w) k.fr (z_chT d)⟩
theorem iH.k (h : iH G) (k : FM A F G G') (d : zdj z_gH A = true) : iH G' := by
  obtain ⟨tw, tn, h1, h2⟩ := h
  exact ⟨tw, tn, h1.FR k.fr (z_cons d (by decide) (by decide)) (z_cons d (by decide) (by decide)), h2.Fk k (zdj_n d (by decide)) (zdj_n d (by decide))⟩
theorem iD.k (h : iD G) (k : FM A F G G') (d : zdj z_gD A = true) : iD G' := by
  obtain ⟨dn, dl, h1, h2⟩ := h
  refine ⟨dn, dl, h1.FR k.fr (fun i hi => ?_), h2.Fk k (zdj_n d (by decide)) (zdj_n d (by decide))⟩
  rcases List.mem_cons.mp hi with w | w
  · rw [w]; decide
  · exact fun q => zdj_n d (List.mem_append_right _ q) w
theorem iP.k (h : iP G) (k : FM A F G G') (d : zdj z_gP A = true) : iP G' := by
  obtain ⟨pn, pl, h1, h2⟩ := h
  refine ⟨pn, pl, h1.FR k.fr (fun i hi => ?_), h2.Fk k (zdj_n d (by decide)) (zdj_n d (by decide))⟩
  rcases List.mem_cons.mp hi with w | w
  · rw [w]; decide
  · by_cases c : i = 2
    · exact Or.inl c
    · refine Or.inr (fun q => zdj_n d ?_ w)
      simp only [List.mem_cons, List.not_mem_nil, or_false] at q ⊢
      omega
theorem iS.k (h : iS G) (k : FM A F G G') (d : zdj z_gS A = true) (f : zdj [17] F = true) : iS G' := by
  obtain ⟨s, sn, sl, h1, h2, h3⟩ := h
  refine ⟨s, sn, sl, h1.FR k.fr (fun i hi => ?_), h2.Fk k (zdj_n d (by decide)) (zdj_n f (by decide)) (zdj_n d (by decide)) (zdj_n d (by decide)), h3.FR k.fr (z_cons d (by decide) (by decide)) (z_cons d (by decide) (by decide))⟩
  rcases List.mem_cons.mp hi with w | w
  · rw [w]; decide
  · exact fun q => zdj_n d (List.mem_append_right _ q) w
theorem zInv.k (h : zInv L G) (k : FM A F G G') (hF : x_Fin xFL G') (d1 : zdj z_gT A = true) (d2 : zdj z_gE A = true) (d3 : zdj z_gH A = true) (d4 : zdj z_gD A = true) (d5 : zdj z_gP A = true) (d6 : zdj z_gS A = true) (f : zdj [1, 4, 17] F = true) : zInv L G' := by
  obtain ⟨h1, h2, h3, h4, h5, h6, h7, h8, h9⟩ := h
  have ff : ∀ r, r ∈ [1, 4, 17] → zdj [r] F = true := fun r hr => by
    have := zdj_n f hr
    unfold zdj
    rw [List.all_cons, List.all_nil, Bool.and_true]
    cases c : F.contains r with
    | true => exact absurd (List.contains_iff_mem.mp c) this
    | false => rfl
  exact ⟨h1.k k d1 (ff _ (by decide)), h2.k k d2 (ff _ (by decide)), h3.k k d3, h4.k k d4, h5.k k d5, h6.k k d6 (ff _ (by decide)), h7.FR k.fr (z_cons d2 (by decide) (by decide)), hF, h9⟩
end XIK
/-! room -/
def pC (L : List Nat) : Nat := (if 169 ∈ L then 0 else 1) + (if 170 ∈ L then 0 else 1) + (if 171 ∈ L then 0 else 1) + (if 172 ∈ L then 0 else 1) + (if 173 ∈ L then 0 else 22)
def pS (L : List Nat) : Nat := (if 169 ∈ L then 0 else 1500) + (if 170 ∈ L then 0 else 1500) + (if 171 ∈ L then 0 else 1500) + (if 172 ∈ L then 0 else 1500) + (if 173 ∈ L then 0 else 32759)
def zBu (r : Nat) (L : List Nat) (k n : Nat) : Prop := k + 2 * r + pC L ≤ 600000 ∧ n + 13122 * r + pS L ≤ 7302250
theorem z_ite {p q : Prop} [Decidable p] [Decidable q] {a : Nat} (h : p → q) : (if q then 0 else a) ≤ (if p then 0 else a) := by
  by_cases c : p
  · rw [if_pos c, if_pos (h c)]; exact Nat.le_refl _
  · rw [if_neg c]; split <;> omega
theorem pC_le {L L' : List Nat} (h : ∀ i, i ∈ L → i ∈ L') : pC L' ≤ pC L ∧ pS L' ≤ pS L := by
  unfold pC pS
  have a1 := z_ite (a := 1) (h 169); have a2 := z_ite (a := 1) (h 170); have a3 := z_ite (a := 1) (h 171); have a4 := z_ite (a := 1) (h 172); have a5 := z_ite (a := 22) (h 173)
  have b1 := z_ite (a := 1500) (h 169); have b2 := z_ite (a := 1500) (h 170); have b3 := z_ite (a := 1500) (h 171); have b4 := z_ite (a := 1500) (h 172); have b5 := z_ite (a := 32759) (h 173)
  omega
theorem pC_ch {L L' : List Nat} {e : Nat} (he : e < 4) (h : ∀ i, i ∈ L → i ∈ L') (h1 : 169 + e ∈ L') (h2 : 173 ∈ L') : pC L' + fC L e ≤ pC L ∧ pS L' + fS L e ≤ pS L := by
  unfold pC pS fC fS
  have a1 := z_ite (a := 1) (h 169); have a2 := z_ite (a := 1) (h 170); have a3 := z_ite (a := 1) (h 171); have a4 := z_ite (a := 1) (h 172)
  have b1 := z_ite (a := 1500) (h 169); have b2 := z_ite (a := 1500) (h 170); have b3 := z_ite (a := 1500) (h 171); have b4 := z_ite (a := 1500) (h 172)
  rw [if_pos h2, if_pos h2]
  rcases (show e = 0 ∨ e = 1 ∨ e = 2 ∨ e = 3 by omega) with rfl | rfl | rfl | rfl
  · rw [show (169 + 0 = 169) from rfl] at h1 ⊢
    rw [if_pos h1, if_pos h1]
    omega
  · rw [show (169 + 1 = 170) from rfl] at h1 ⊢
    rw [if_pos h1, if_pos h1]
    omega
  · rw [show (169 + 2 = 171) from rfl] at h1 ⊢
    rw [if_pos h1, if_pos h1]
    omega
  · rw [show (169 + 3 = 172) from rfl] at h1 ⊢
    rw [if_pos h1, if_pos h1]
    omega
theorem zBu.st {r k n : Nat} {L : List Nat} (h : zBu (r + 1) L k n) : zBu r L k n := ⟨by have := h.1; omega, by have := h.2; omega⟩
theorem zBu.sv {r k n : Nat} {L L' : List Nat} (h : zBu (r + 1) L k n) (hl : ∀ i, i ∈ L → i ∈ L') : zBu r L' (k + 2) (n + 13122) := by
  have := pC_le hl
  exact ⟨by have := h.1; omega, by have := h.2; omega⟩
theorem zBu.gr {r k n : Nat} {L L' : List Nat} (h : zBu (r + 1) L k n) (hl : ∀ i, i ∈ L → i ∈ L') : zBu r L' (k + 0) (n + 0) := by
  have := pC_le hl
  exact ⟨by have := h.1; omega, by have := h.2; omega⟩
theorem zBu.ch {r k n e : Nat} {L L' : List Nat} (h : zBu (r + 1) L k n) (he : e < 4) (hl : ∀ i, i ∈ L → i ∈ L') (h1 : 169 + e ∈ L') (h2 : 173 ∈ L') : zBu r L' (k + fC L e) (n + fS L e) := by
  have := pC_ch he hl h1 h2
  exact ⟨by have := h.1; omega, by have := h.2; omega⟩

