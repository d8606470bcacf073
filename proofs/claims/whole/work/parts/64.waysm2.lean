/-! patterns making rows: the reference's counts and its test -/
def mGo (n : Nat) (I : Nat → Nat → Nat) (q m : Nat) (R : Nat → Nat) (G : Nat → Nat → Int) : Prop := G 127 50 = n ∧ n ≤ 12 ∧ (∀ j, j < n → G 164 j = I q j ∧ zV (I q j)) ∧ G 127 48 = m ∧ m ≤ 30 ∧ ∀ j, j < m → G 163 j = R j ∧ R j < 8
theorem mGo.FM {n m : Nat} {I : Nat → Nat → Nat} {q : Nat} {R : Nat → Nat} {G G' : Nat → Nat → Int} (h : mGo n I q m R G) (hR : FM [165, 166] [] G G') : mGo n I q m R G' := by
  obtain ⟨h1, h2, h3, h4, h5, h6⟩ := h
  exact ⟨by rw [hR.at 127 50]; exact h1, h2, fun j hj => by rw [hR.at 164 j (by decide) (fun w => absurd w (by decide))]; exact h3 j hj, by rw [hR.at 127 48]; exact h4, h5, fun j hj => by rw [hR.at 163 j (by decide) (fun w => absurd w (by decide))]; exact h6 j hj⟩
section XMG
variable {n m u : Nat} {I : Nat → Nat → Nat} {q : Nat} {R : Nat → Nat} {L : List Nat}
theorem l_mo_countOf {G : Nat → Nat → Int} {a : Int} (hL : x_SL L) (hF : x_Fin xFL G) (hG : mGo n I q m R G) (ha : a = 4 + u) (hu : u < 4) :
    ∀ (k i : Nat), i + k = n → X mX12_countOf 0 0 0 (qI L fun x G' => x = zct I q u n ∧ G' = G) 4 [some (vR 127), some (vI a), some (vI (zct I q u i)), some (vI i)] [] L G 0 0 := by
  obtain ⟨h1, h2, h3, h4, h5, h6⟩ := hG
  intro k
  induction k with
  | zero =>
    intro i hi
    have hi : i = n := by omega
    subst hi
    refine x_iloadn (pc := 4) dX12_countOf_4 rfl ?_
    refine x_aloadn (pc := 5) dX12_countOf_5 rfl ?_
    refine x_getI (pc := 6) dX12_countOf_6 fl_X12_328 k_127 (hL 127 (by decide) (by decide)) ?_
    refine x_cge (tgt := 36) (pc := 9) dX12_countOf_9 (by decide) (by omega) (fun c_9 => ?_) (fun c_9 => ?_)
    rotate_left
    · skip
      exact absurd c_9 (by omega)
    refine x_iloadn (pc := 36) dX12_countOf_36 rfl ?_
    refine x_rI (pc := 37) dX12_countOf_37 rfl ?_
    exact ⟨rfl, rfl⟩
  | succ k ih =>
    intro i hi
    obtain ⟨e1, e2, e3⟩ := h3 i (by omega)
    have hc : zct I q u (i + 1) = zct I q u i + (if I q i = 4 + u then 1 else 0) := rfl
    have hct := zct_le (I := I) (q := q) (u := u) i
    refine x_iloadn (pc := 4) dX12_countOf_4 rfl ?_
    refine x_aloadn (pc := 5) dX12_countOf_5 rfl ?_
    refine x_getI (pc := 6) dX12_countOf_6 fl_X12_328 k_127 (hL 127 (by decide) (by decide)) ?_
    refine x_cge (tgt := 36) (pc := 9) dX12_countOf_9 (by decide) (by omega) (fun c_9 => ?_) (fun c_9 => ?_)
    · skip
      exact absurd c_9 (by omega)
    refine x_iloadn (pc := 12) dX12_countOf_12 rfl ?_
    refine x_aloadn (pc := 13) dX12_countOf_13 rfl ?_
    refine x_getR (164) (pc := 14) dX12_countOf_14 fl_X12_120 k_127 (hL 127 (by decide) (by decide)) (f_127_49 hF) ?_
    refine x_iloadn (pc := 17) dX12_countOf_17 rfl ?_
    refine x_iald (i) (pc := 18) dX12_countOf_18 k_164 (hL 164 (by decide) (by decide)) (⟨by omega, by omega, by decide⟩) ?_
    refine x_iloadn (pc := 19) dX12_countOf_19 rfl ?_
    refine x_cne (tgt := 27) (pc := 20) dX12_countOf_20 (by decide) (by omega) (fun c_20 => ?_) (fun c_20 => ?_)
    · skip
      refine x_iconst (pc := 27) dX12_countOf_27 ?_
      refine x_iadd (pc := 28) dX12_countOf_28 ?_
      refine x_istoren (pc := 29) dX12_countOf_29 rfl (by decide) rfl ?_
      refine x_iinc (pc := 30) dX12_countOf_30 rfl (by decide) rfl ?_
      refine x_goto (tgt := 4) (pc := 33) dX12_countOf_33 (by decide) ?_
      have e := ih (i + 1) (by omega)
      rw [hc] at e
      first
      | (rw [if_pos (by omega)] at e; exact e)
      | (rw [if_neg (by omega)] at e; rw [Int.add_zero]; exact e)
    · skip
      refine x_iconst (pc := 23) dX12_countOf_23 ?_
      refine x_goto (tgt := 28) (pc := 24) dX12_countOf_24 (by decide) ?_
      refine x_iadd (pc := 28) dX12_countOf_28 ?_
      refine x_istoren (pc := 29) dX12_countOf_29 rfl (by decide) rfl ?_
      refine x_iinc (pc := 30) dX12_countOf_30 rfl (by decide) rfl ?_
      refine x_goto (tgt := 4) (pc := 33) dX12_countOf_33 (by decide) ?_
      have e := ih (i + 1) (by omega)
      rw [hc] at e
      first
      | (rw [if_pos (by omega)] at e; exact e)
      | (rw [if_neg (by omega)] at e; rw [Int.add_zero]; exact e)
theorem c_mo_countOf {G : Nat → Nat → Int} {a : Int} (hL : x_SL L) (hF : x_Fin xFL G) (hG : mGo n I q m R G) (ha : a = 4 + u) (hu : u < 4) :
    CM yX12_countOf mX12_countOf 0 0 0 [vR 127, vI a] L G (qI L fun x G' => x = zct I q u n ∧ G' = G) := by
  refine Ct.of_X (μ := mX12_countOf) rfl rfl (by decide) (fun h => by cases h) (Nat.le_of_ble_eq_true rfl) rfl ?_
  refine x_iconst (pc := 0) dX12_countOf_0 ?_
  refine x_istoren (pc := 1) dX12_countOf_1 rfl (by decide) rfl ?_
  refine x_iconst (pc := 2) dX12_countOf_2 ?_
  refine x_istoren (pc := 3) dX12_countOf_3 rfl (by decide) rfl ?_
  exact l_mo_countOf hL hF hG ha hu n 0 (by omega)
/-- what isGoal tells -/
def zGl (n : Nat) (I : Nat → Nat → Nat) (q m : Nat) (p R : Nat → Nat) : Prop := yof I q p n = m ∧ zMa I q p R n
abbrev pGl (L : List Nat) (G0 : Nat → Nat → Int) (n : Nat) (I : Nat → Nat → Nat) (q m : Nat) (p R : Nat → Nat) : x_Q := qI L fun x G' => ((x = 1 ∧ zGl n I q m p R) ∨ (x = 0 ∧ ¬ zGl n I q m p R)) ∧ FM [166] [] G0 G' ∧ x_Fin xFL G'
theorem l_mo_gl0 {p : Nat → Nat} {a i : Int} {o4 o5 : Option (Nat × Int)} {G0 G : Nat → Nat → Int} (hL : x_SL L) (hF : x_Fin xFL G) (hQ : FM [166] [] G0 G) (hn : ¬ zGl n I q m p R) :
    X mX12_isGoal 0 0 0 (pGl L G0 n I q m p R) 26 [some (vR 127), some (vI a), some (vI 0), some (vI i), o4, o5] [] L G 0 0 := by
  refine x_iloadn (pc := 26) dX12_isGoal_26 rfl ?_
  refine x_ieq (tgt := 222) (pc := 27) dX12_isGoal_27 (by decide) (by omega) (fun c_27 => ?_) (fun c_27 => ?_)
  rotate_left
  · skip
    exact absurd rfl c_27
  refine x_iloadn (pc := 222) dX12_isGoal_222 rfl ?_
  refine x_ieq (tgt := 238) (pc := 223) dX12_isGoal_223 (by decide) (by omega) (fun c_223 => ?_) (fun c_223 => ?_)
  rotate_left
  · skip
    exact absurd rfl c_223
  refine x_iconst (pc := 238) dX12_isGoal_238 ?_
  refine x_rZ (pc := 239) dX12_isGoal_239 rfl (by omega) ?_
  exact ⟨Or.inr ⟨rfl, hn⟩, hQ, hF⟩
theorem l_mo_glJ0 {p : Nat → Nat} {at_ k v : Nat} {x j : Int} {Q : x_Q} {G : Nat → Nat → Int} (hL : x_SL L) (hF : x_Fin xFL G) (hv : v < 4) (hx : x = 4 + v) (hpv : G 165 v = p v)
    (cont : X mX12_isGoal 0 0 0 Q 26 [some (vR 127), some (vI ((at_ : Int) + p v)), some (vI 0), some (vI ((k : Int) + 1)), some (vI x), some (vI j)] [] L G 0 0) :
    X mX12_isGoal 0 0 0 Q 145 [some (vR 127), some (vI at_), some (vI 0), some (vI k), some (vI x), some (vI j)] [] L G 0 0 := by
  refine x_iloadn (pc := 145) dX12_isGoal_145 rfl ?_
  refine x_ieq (tgt := 204) (pc := 146) dX12_isGoal_146 (by decide) (by omega) (fun c_146 => ?_) (fun c_146 => ?_)
  rotate_left
  · skip
    exact absurd rfl c_146
  refine x_iloadn (pc := 204) dX12_isGoal_204 rfl ?_
  refine x_aloadn (pc := 205) dX12_isGoal_205 rfl ?_
  refine x_getR (165) (pc := 206) dX12_isGoal_206 fl_X12_123 k_127 (hL 127 (by decide) (by decide)) (f_127_51 hF) ?_
  refine x_iload (pc := 209) dX12_isGoal_209 rfl ?_
  refine x_iconst (pc := 211) dX12_isGoal_211 ?_
  refine x_isub (pc := 212) dX12_isGoal_212 ?_
  refine x_iald (v) (pc := 213) dX12_isGoal_213 k_165 (hL 165 (by decide) (by decide)) (⟨by omega, by omega, by decide⟩) ?_
  rw [hpv]
  refine x_iadd (pc := 214) dX12_isGoal_214 ?_
  refine x_istoren (pc := 215) dX12_isGoal_215 rfl (by decide) rfl ?_
  refine x_iinc (pc := 216) dX12_isGoal_216 rfl (by decide) rfl ?_
  refine x_goto (tgt := 26) (pc := 219) dX12_isGoal_219 (by decide) ?_
  exact cont
/-- the letters of one unknown compared -/
theorem l_mo_glJ {p : Nat → Nat} {at_ s k v : Nat} {x : Int} {Q : x_Q} {G : Nat → Nat → Int} (hL : x_SL L) (hF : x_Fin xFL G) (hG : mGo n I q m R G) (hv : v < 4) (hx : x = 4 + v) (hpv : G 165 v = p v) (hs : G 166 v = s) (hsm : s + p v ≤ m) (ham : at_ + p v ≤ m)
    (cont : ∀ (b : Int) (o5 : Option (Nat × Int)), ((b = 1 ∧ ∀ j, j < p v → R (at_ + j) = R (s + j)) ∨ (b = 0 ∧ ¬ ∀ j, j < p v → R (at_ + j) = R (s + j))) → X mX12_isGoal 0 0 0 Q 26 [some (vR 127), some (vI ((at_ : Int) + p v)), some (vI b), some (vI ((k : Int) + 1)), some (vI x), o5] [] L G 0 0) :
    ∀ (r j : Nat), j + r = p v → (∀ i, i < j → R (at_ + i) = R (s + i)) → X mX12_isGoal 0 0 0 Q 145 [some (vR 127), some (vI at_), some (vI 1), some (vI k), some (vI x), some (vI j)] [] L G 0 0 := by
  obtain ⟨h1, h2, h3, h4, h5, h6⟩ := hG
  intro r
  induction r with
  | zero =>
    intro j hj hE
    have hj : j = p v := by omega
    subst hj
    refine x_iloadn (pc := 145) dX12_isGoal_145 rfl ?_
    refine x_ieq (tgt := 204) (pc := 146) dX12_isGoal_146 (by decide) (by omega) (fun c_146 => ?_) (fun c_146 => ?_)
    · skip
      exact absurd c_146 (by decide)
    refine x_iload (pc := 149) dX12_isGoal_149 rfl ?_
    refine x_aloadn (pc := 151) dX12_isGoal_151 rfl ?_
    refine x_getR (165) (pc := 152) dX12_isGoal_152 fl_X12_123 k_127 (hL 127 (by decide) (by decide)) (f_127_51 hF) ?_
    refine x_iload (pc := 155) dX12_isGoal_155 rfl ?_
    refine x_iconst (pc := 157) dX12_isGoal_157 ?_
    refine x_isub (pc := 158) dX12_isGoal_158 ?_
    refine x_iald (v) (pc := 159) dX12_isGoal_159 k_165 (hL 165 (by decide) (by decide)) (⟨by omega, by omega, by decide⟩) ?_
    refine x_cge (tgt := 204) (pc := 160) dX12_isGoal_160 (by decide) (by omega) (fun c_160 => ?_) (fun c_160 => ?_)
    rotate_left
    · skip
      exact absurd c_160 (by omega)
    refine x_iloadn (pc := 204) dX12_isGoal_204 rfl ?_
    refine x_aloadn (pc := 205) dX12_isGoal_205 rfl ?_
    refine x_getR (165) (pc := 206) dX12_isGoal_206 fl_X12_123 k_127 (hL 127 (by decide) (by decide)) (f_127_51 hF) ?_
    refine x_iload (pc := 209) dX12_isGoal_209 rfl ?_
    refine x_iconst (pc := 211) dX12_isGoal_211 ?_
    refine x_isub (pc := 212) dX12_isGoal_212 ?_
    refine x_iald (v) (pc := 213) dX12_isGoal_213 k_165 (hL 165 (by decide) (by decide)) (⟨by omega, by omega, by decide⟩) ?_
    rw [hpv]
    refine x_iadd (pc := 214) dX12_isGoal_214 ?_
    refine x_istoren (pc := 215) dX12_isGoal_215 rfl (by decide) rfl ?_
    refine x_iinc (pc := 216) dX12_isGoal_216 rfl (by decide) rfl ?_
    refine x_goto (tgt := 26) (pc := 219) dX12_isGoal_219 (by decide) ?_
    exact cont 1 _ (Or.inl ⟨rfl, hE⟩)
  | succ r ih =>
    intro j hj hE
    have r1 := h6 (at_ + j) (by omega)
    have r2 := h6 (s + j) (by omega)
    refine x_iloadn (pc := 145) dX12_isGoal_145 rfl ?_
    refine x_ieq (tgt := 204) (pc := 146) dX12_isGoal_146 (by decide) (by omega) (fun c_146 => ?_) (fun c_146 => ?_)
    · skip
      exact absurd c_146 (by decide)
    refine x_iload (pc := 149) dX12_isGoal_149 rfl ?_
    refine x_aloadn (pc := 151) dX12_isGoal_151 rfl ?_
    refine x_getR (165) (pc := 152) dX12_isGoal_152 fl_X12_123 k_127 (hL 127 (by decide) (by decide)) (f_127_51 hF) ?_
    refine x_iload (pc := 155) dX12_isGoal_155 rfl ?_
    refine x_iconst (pc := 157) dX12_isGoal_157 ?_
    refine x_isub (pc := 158) dX12_isGoal_158 ?_
    refine x_iald (v) (pc := 159) dX12_isGoal_159 k_165 (hL 165 (by decide) (by decide)) (⟨by omega, by omega, by decide⟩) ?_
    refine x_cge (tgt := 204) (pc := 160) dX12_isGoal_160 (by decide) (by omega) (fun c_160 => ?_) (fun c_160 => ?_)
    · skip
      exact absurd c_160 (by omega)
    refine x_aloadn (pc := 163) dX12_isGoal_163 rfl ?_
    refine x_getR (163) (pc := 164) dX12_isGoal_164 fl_X12_117 k_127 (hL 127 (by decide) (by decide)) (f_127_47 hF) ?_
    refine x_iloadn (pc := 167) dX12_isGoal_167 rfl ?_
    refine x_iload (pc := 168) dX12_isGoal_168 rfl ?_
    refine x_iadd (pc := 170) dX12_isGoal_170 ?_
    refine x_iald (at_ + j) (pc := 171) dX12_isGoal_171 k_163 (hL 163 (by decide) (by decide)) (⟨by omega, by omega, by decide⟩) ?_
    refine x_aloadn (pc := 172) dX12_isGoal_172 rfl ?_
    refine x_getR (163) (pc := 173) dX12_isGoal_173 fl_X12_117 k_127 (hL 127 (by decide) (by decide)) (f_127_47 hF) ?_
    refine x_aloadn (pc := 176) dX12_isGoal_176 rfl ?_
    refine x_getR (166) (pc := 177) dX12_isGoal_177 fl_X12_126 k_127 (hL 127 (by decide) (by decide)) (f_127_52 hF) ?_
    refine x_iload (pc := 180) dX12_isGoal_180 rfl ?_
    refine x_iconst (pc := 182) dX12_isGoal_182 ?_
    refine x_isub (pc := 183) dX12_isGoal_183 ?_
    refine x_iald (v) (pc := 184) dX12_isGoal_184 k_166 (hL 166 (by decide) (by decide)) (⟨by omega, by omega, by decide⟩) ?_
    refine x_iload (pc := 185) dX12_isGoal_185 rfl ?_
    refine x_iadd (pc := 187) dX12_isGoal_187 ?_
    refine x_iald (s + j) (pc := 188) dX12_isGoal_188 k_163 (hL 163 (by decide) (by decide)) (⟨by omega, by omega, by decide⟩) ?_
    refine x_cne (tgt := 196) (pc := 189) dX12_isGoal_189 (by decide) (by omega) (fun c_189 => ?_) (fun c_189 => ?_)
    · skip
      refine x_iconst (pc := 196) dX12_isGoal_196 ?_
      refine x_istoren (pc := 197) dX12_isGoal_197 rfl (by decide) rfl ?_
      refine x_iinc (pc := 198) dX12_isGoal_198 rfl (by decide) rfl ?_
      refine x_goto (tgt := 145) (pc := 201) dX12_isGoal_201 (by decide) ?_
      first
      | exact ih (j + 1) (by omega) (fun i hi => by
        by_cases e : i = j
        · subst e; omega
        · exact hE i (by omega))
      | exact l_mo_glJ0 (p := p) hL hF hv hx hpv (cont 0 _ (Or.inr ⟨rfl, fun w => by have := w j (by omega); omega⟩))
    · skip
      refine x_iconst (pc := 192) dX12_isGoal_192 ?_
      refine x_goto (tgt := 197) (pc := 193) dX12_isGoal_193 (by decide) ?_
      refine x_istoren (pc := 197) dX12_isGoal_197 rfl (by decide) rfl ?_
      refine x_iinc (pc := 198) dX12_isGoal_198 rfl (by decide) rfl ?_
      refine x_goto (tgt := 145) (pc := 201) dX12_isGoal_201 (by decide) ?_
      first
      | exact ih (j + 1) (by omega) (fun i hi => by
        by_cases e : i = j
        · subst e; omega
        · exact hE i (by omega))
      | exact l_mo_glJ0 (p := p) hL hF hv hx hpv (cont 0 _ (Or.inr ⟨rfl, fun w => by have := w j (by omega); omega⟩))
theorem l_mo_putu {p : Nat → Nat} {G : Nat → Nat → Int} {u : Nat} (h : ∀ v, v < 4 → G 165 v = p v) (hu : u < 4) : G 165 u = p u := h u hu
/-- the test, from its head -/
theorem l_mo_gl {p : Nat → Nat} {G0 : Nat → Nat → Int} (hL : x_SL L) (hp4 : ∀ v, v < 4 → p v ≤ 30) :
    ∀ (r k : Nat) (G : Nat → Nat → Int) (o4 o5 : Option (Nat × Int)), k + r = n → mGo n I q m R G → (∀ v, v < 4 → G 165 v = p v) → (∀ v, v < 4 → G 166 v = yst I q p k v) → (∀ j, j < k → zMk I q p R j) → yof I q p k ≤ m → FM [166] [] G0 G → x_Fin xFL G →
    X mX12_isGoal 0 0 0 (pGl L G0 n I q m p R) 26 [some (vR 127), some (vI (yof I q p k)), some (vI 1), some (vI k), o4, o5] [] L G 0 0 := by
  intro r
  induction r with
  | zero =>
    intro k G o4 o5 hk hG hp hst hM hm hQ hF
    have hk : k = n := by omega
    subst hk
    obtain ⟨h1, h2, h3, h4, h5, h6⟩ := id hG
    refine x_iloadn (pc := 26) dX12_isGoal_26 rfl ?_
    refine x_ieq (tgt := 222) (pc := 27) dX12_isGoal_27 (by decide) (by omega) (fun c_27 => ?_) (fun c_27 => ?_)
    · skip
      exact absurd c_27 (by decide)
    refine x_iloadn (pc := 30) dX12_isGoal_30 rfl ?_
    refine x_aloadn (pc := 31) dX12_isGoal_31 rfl ?_
    refine x_getI (pc := 32) dX12_isGoal_32 fl_X12_328 k_127 (hL 127 (by decide) (by decide)) ?_
    refine x_cge (tgt := 222) (pc := 35) dX12_isGoal_35 (by decide) (by omega) (fun c_35 => ?_) (fun c_35 => ?_)
    rotate_left
    · skip
      exact absurd c_35 (by omega)
    refine x_iloadn (pc := 222) dX12_isGoal_222 rfl ?_
    refine x_ieq (tgt := 238) (pc := 223) dX12_isGoal_223 (by decide) (by omega) (fun c_223 => ?_) (fun c_223 => ?_)
    · skip
      exact absurd c_223 (by decide)
    refine x_iloadn (pc := 226) dX12_isGoal_226 rfl ?_
    refine x_aloadn (pc := 227) dX12_isGoal_227 rfl ?_
    refine x_getI (pc := 228) dX12_isGoal_228 fl_X12_331 k_127 (hL 127 (by decide) (by decide)) ?_
    refine x_cne (tgt := 238) (pc := 231) dX12_isGoal_231 (by decide) (by omega) (fun c_231 => ?_) (fun c_231 => ?_)
    · skip
      refine x_iconst (pc := 238) dX12_isGoal_238 ?_
      refine x_rZ (pc := 239) dX12_isGoal_239 rfl (by omega) ?_
      first
      | exact ⟨Or.inl ⟨rfl, by omega, hM⟩, hQ, hF⟩
      | exact ⟨Or.inr ⟨rfl, fun w => by have := w.1; omega⟩, hQ, hF⟩
    · skip
      refine x_iconst (pc := 234) dX12_isGoal_234 ?_
      refine x_goto (tgt := 239) (pc := 235) dX12_isGoal_235 (by decide) ?_
      refine x_rZ (pc := 239) dX12_isGoal_239 rfl (by omega) ?_
      first
      | exact ⟨Or.inl ⟨rfl, by omega, hM⟩, hQ, hF⟩
      | exact ⟨Or.inr ⟨rfl, fun w => by have := w.1; omega⟩, hQ, hF⟩
  | succ r ih =>
    intro k G o4 o5 hk hG hp hst hM hm hQ hF
    obtain ⟨h1, h2, h3, h4, h5, h6⟩ := id hG
    obtain ⟨e1, e2, e3⟩ := h3 k (by omega)
    have hof : yof I q p (k + 1) = yof I q p k + (if I q k < 4 then 1 else p (I q k - 4)) := rfl
    have hle := zof_le (I := I) (q := q) (p := p) (show k + 1 ≤ n by omega)
    have hzs : yst I q p (k + 1) = if 4 ≤ I q k ∧ yst I q p k (I q k - 4) = -1 then zup (yst I q p k) (I q k - 4) (yof I q p k : Int) else yst I q p k := rfl
    by_cases c4 : I q k < 4
    · rw [if_pos c4] at hof
      rw [if_neg (by omega)] at hzs
      have hmk : zMk I q p R k ↔ R (yof I q p k) = I q k := by unfold zMk; rw [if_pos c4]
      have bad : (yof I q p k < m → R (yof I q p k) ≠ I q k) → ¬ zGl n I q m p R := fun w z => by
        have := z.1
        exact w (by omega) (hmk.mp (z.2 k (by omega)))
      by_cases cm : yof I q p k < m
      · have hr := h6 _ cm
        refine x_iloadn (pc := 26) dX12_isGoal_26 rfl ?_
        refine x_ieq (tgt := 222) (pc := 27) dX12_isGoal_27 (by decide) (by omega) (fun c_27 => ?_) (fun c_27 => ?_)
        · skip
          exact absurd c_27 (by decide)
        refine x_iloadn (pc := 30) dX12_isGoal_30 rfl ?_
        refine x_aloadn (pc := 31) dX12_isGoal_31 rfl ?_
        refine x_getI (pc := 32) dX12_isGoal_32 fl_X12_328 k_127 (hL 127 (by decide) (by decide)) ?_
        refine x_cge (tgt := 222) (pc := 35) dX12_isGoal_35 (by decide) (by omega) (fun c_35 => ?_) (fun c_35 => ?_)
        · skip
          exact absurd c_35 (by omega)
        refine x_aloadn (pc := 38) dX12_isGoal_38 rfl ?_
        refine x_getR (164) (pc := 39) dX12_isGoal_39 fl_X12_120 k_127 (hL 127 (by decide) (by decide)) (f_127_49 hF) ?_
        refine x_iloadn (pc := 42) dX12_isGoal_42 rfl ?_
        refine x_iald (k) (pc := 43) dX12_isGoal_43 k_164 (hL 164 (by decide) (by decide)) (⟨by omega, by omega, by decide⟩) ?_
        refine x_istore (pc := 44) dX12_isGoal_44 (by decide) rfl ?_
        refine x_iload (pc := 46) dX12_isGoal_46 rfl ?_
        refine x_iconst (pc := 48) dX12_isGoal_48 ?_
        refine x_cge (tgt := 83) (pc := 49) dX12_isGoal_49 (by decide) (by omega) (fun c_49 => ?_) (fun c_49 => ?_)
        · skip
          exact absurd c_49 (by omega)
        refine x_iloadn (pc := 52) dX12_isGoal_52 rfl ?_
        refine x_aloadn (pc := 53) dX12_isGoal_53 rfl ?_
        refine x_getI (pc := 54) dX12_isGoal_54 fl_X12_331 k_127 (hL 127 (by decide) (by decide)) ?_
        refine x_cge (tgt := 75) (pc := 57) dX12_isGoal_57 (by decide) (by omega) (fun c_57 => ?_) (fun c_57 => ?_)
        · skip
          exact absurd c_57 (by omega)
        refine x_aloadn (pc := 60) dX12_isGoal_60 rfl ?_
        refine x_getR (163) (pc := 61) dX12_isGoal_61 fl_X12_117 k_127 (hL 127 (by decide) (by decide)) (f_127_47 hF) ?_
        refine x_iloadn (pc := 64) dX12_isGoal_64 rfl ?_
        refine x_iald (yof I q p k) (pc := 65) dX12_isGoal_65 k_163 (hL 163 (by decide) (by decide)) (⟨by omega, by omega, by decide⟩) ?_
        refine x_iload (pc := 66) dX12_isGoal_66 rfl ?_
        refine x_cne (tgt := 75) (pc := 68) dX12_isGoal_68 (by decide) (by omega) (fun c_68 => ?_) (fun c_68 => ?_)
        · skip
          refine x_iconst (pc := 75) dX12_isGoal_75 ?_
          refine x_istoren (pc := 76) dX12_isGoal_76 rfl (by decide) rfl ?_
          refine x_iinc (pc := 77) dX12_isGoal_77 rfl (by decide) rfl ?_
          refine x_goto (tgt := 216) (pc := 80) dX12_isGoal_80 (by decide) ?_
          refine x_iinc (pc := 216) dX12_isGoal_216 rfl (by decide) rfl ?_
          refine x_goto (tgt := 26) (pc := 219) dX12_isGoal_219 (by decide) ?_
          first
          | exact l_mo_gl0 hL hF hQ (bad (fun _ => by omega))
          | (rw [show ((yof I q p k : Nat) : Int) + 1 = ((yof I q p (k + 1) : Nat) : Int) by omega]
             refine ih (k + 1) _ _ _ (by omega) hG hp (by rw [hzs]; exact hst) (fun j hj => ?_) (by omega) hQ hF
             by_cases e : j = k
             · subst e; exact hmk.mpr (by omega)
             · exact hM j (by omega))
        · skip
          refine x_iconst (pc := 71) dX12_isGoal_71 ?_
          refine x_goto (tgt := 76) (pc := 72) dX12_isGoal_72 (by decide) ?_
          refine x_istoren (pc := 76) dX12_isGoal_76 rfl (by decide) rfl ?_
          refine x_iinc (pc := 77) dX12_isGoal_77 rfl (by decide) rfl ?_
          refine x_goto (tgt := 216) (pc := 80) dX12_isGoal_80 (by decide) ?_
          refine x_iinc (pc := 216) dX12_isGoal_216 rfl (by decide) rfl ?_
          refine x_goto (tgt := 26) (pc := 219) dX12_isGoal_219 (by decide) ?_
          first
          | exact l_mo_gl0 hL hF hQ (bad (fun _ => by omega))
          | (rw [show ((yof I q p k : Nat) : Int) + 1 = ((yof I q p (k + 1) : Nat) : Int) by omega]
             refine ih (k + 1) _ _ _ (by omega) hG hp (by rw [hzs]; exact hst) (fun j hj => ?_) (by omega) hQ hF
             by_cases e : j = k
             · subst e; exact hmk.mpr (by omega)
             · exact hM j (by omega))
      · skip
        refine x_iloadn (pc := 26) dX12_isGoal_26 rfl ?_
        refine x_ieq (tgt := 222) (pc := 27) dX12_isGoal_27 (by decide) (by omega) (fun c_27 => ?_) (fun c_27 => ?_)
        · skip
          exact absurd c_27 (by decide)
        refine x_iloadn (pc := 30) dX12_isGoal_30 rfl ?_
        refine x_aloadn (pc := 31) dX12_isGoal_31 rfl ?_
        refine x_getI (pc := 32) dX12_isGoal_32 fl_X12_328 k_127 (hL 127 (by decide) (by decide)) ?_
        refine x_cge (tgt := 222) (pc := 35) dX12_isGoal_35 (by decide) (by omega) (fun c_35 => ?_) (fun c_35 => ?_)
        · skip
          exact absurd c_35 (by omega)
        refine x_aloadn (pc := 38) dX12_isGoal_38 rfl ?_
        refine x_getR (164) (pc := 39) dX12_isGoal_39 fl_X12_120 k_127 (hL 127 (by decide) (by decide)) (f_127_49 hF) ?_
        refine x_iloadn (pc := 42) dX12_isGoal_42 rfl ?_
        refine x_iald (k) (pc := 43) dX12_isGoal_43 k_164 (hL 164 (by decide) (by decide)) (⟨by omega, by omega, by decide⟩) ?_
        refine x_istore (pc := 44) dX12_isGoal_44 (by decide) rfl ?_
        refine x_iload (pc := 46) dX12_isGoal_46 rfl ?_
        refine x_iconst (pc := 48) dX12_isGoal_48 ?_
        refine x_cge (tgt := 83) (pc := 49) dX12_isGoal_49 (by decide) (by omega) (fun c_49 => ?_) (fun c_49 => ?_)
        · skip
          exact absurd c_49 (by omega)
        refine x_iloadn (pc := 52) dX12_isGoal_52 rfl ?_
        refine x_aloadn (pc := 53) dX12_isGoal_53 rfl ?_
        refine x_getI (pc := 54) dX12_isGoal_54 fl_X12_331 k_127 (hL 127 (by decide) (by decide)) ?_
        refine x_cge (tgt := 75) (pc := 57) dX12_isGoal_57 (by decide) (by omega) (fun c_57 => ?_) (fun c_57 => ?_)
        rotate_left
        · skip
          exact absurd c_57 (by omega)
        refine x_iconst (pc := 75) dX12_isGoal_75 ?_
        refine x_istoren (pc := 76) dX12_isGoal_76 rfl (by decide) rfl ?_
        refine x_iinc (pc := 77) dX12_isGoal_77 rfl (by decide) rfl ?_
        refine x_goto (tgt := 216) (pc := 80) dX12_isGoal_80 (by decide) ?_
        refine x_iinc (pc := 216) dX12_isGoal_216 rfl (by decide) rfl ?_
        refine x_goto (tgt := 26) (pc := 219) dX12_isGoal_219 (by decide) ?_
        exact l_mo_gl0 hL hF hQ (bad (fun w => absurd w cm))
    · obtain ⟨v, hv, hiv⟩ : ∃ v, v < 4 ∧ I q k = 4 + v := ⟨I q k - 4, by omega, by omega⟩
      have hiv4 : I q k - 4 = v := by omega
      rw [if_neg c4, hiv4] at hof
      rw [hiv4] at hzs
      have hsv := hst v hv
      have hpv := hp v hv
      have hp30 := hp4 v hv
      have hsb := zst_bd (I := I) (q := q) (p := p) k v
      have hmk : zMk I q p R k ↔ (yst I q p k v = -1 ∨ ∀ j, j < p v → R (yof I q p k + j) = R ((yst I q p k v).toNat + j)) := by unfold zMk; rw [if_neg c4, hiv4]
      -- behind the place noted: s
      obtain ⟨s, hs1, hs2, hs3, hs4⟩ : ∃ s : Nat, (if yst I q p k v = -1 then (yof I q p k : Int) else yst I q p k v) = s ∧ s + p v ≤ yof I q p (k + 1) ∧ (zMk I q p R k ↔ ∀ j, j < p v → R (yof I q p k + j) = R (s + j)) ∧ ∀ w, w < 4 → yst I q p (k + 1) w = if w = v then (s : Int) else yst I q p k w := by
        by_cases c : yst I q p k v = -1
        · refine ⟨yof I q p k, by rw [if_pos c], by omega, ?_, fun w hw => ?_⟩
          · rw [hmk]; exact ⟨fun _ _ _ => rfl, fun _ => Or.inl c⟩
          · rw [hzs, if_pos ⟨by omega, c⟩]
            by_cases e : w = v
            · subst e; rw [zup_s, if_pos rfl]
            · rw [zup_n e, if_neg e]
        · refine ⟨(yst I q p k v).toNat, by rw [if_neg c]; omega, by omega, ?_, fun w hw => ?_⟩
          · rw [hmk]; exact ⟨fun w => w.elim (fun e => absurd e c) (fun e => e), Or.inr⟩
          · rw [hzs, if_neg (fun w => c w.2)]
            by_cases e : w = v
            · subst e; rw [if_pos rfl]; omega
            · rw [if_neg e]
      have step : ∀ (G' : Nat → Nat → Int) (o5 : Option (Nat × Int)), G' = x_up G 166 v s → x_Fin xFL G' → yof I q p k + p v ≤ m → X mX12_isGoal 0 0 0 (pGl L G0 n I q m p R) 145 [some (vR 127), some (vI (yof I q p k)), some (vI 1), some (vI k), some (vI (I q k)), some (vI 0)] [] L G' 0 0 := fun G' o5 hG' hF' hm' => by
        have hR1 : FM [166] [] G G' := by rw [hG']; exact FM.rf.upA (by decide)
        have hG1 : mGo n I q m R G' := hG.FM (hR1.mono (by decide) (by decide))
        have hp1 : ∀ v, v < 4 → G' 165 v = p v := fun v hv => by rw [hR1.at 165 v (by decide) (fun w => absurd w (by decide))]; exact hp v hv
        refine l_mo_glJ (p := p) (s := s) hL hF' hG1 hv (by omega) (hp1 v hv) (by rw [hG']; exact x_up_s) (by omega) (by omega) (fun b o5 hb => ?_) (p v) 0 (by omega) (fun i hi => absurd hi (Nat.not_lt_zero i))
        rw [show ((yof I q p k : Nat) : Int) + ((p v : Nat) : Int) = ((yof I q p (k + 1) : Nat) : Int) by omega]
        rcases hb with ⟨rfl, hb⟩ | ⟨rfl, hb⟩
        · refine ih (k + 1) G' _ _ (by omega) hG1 hp1 (fun w hw => ?_) (fun j hj => ?_) (by omega) (hQ.tr hR1) hF'
          · rw [hs4 w hw, hG']
            by_cases e : w = v
            · subst e; rw [if_pos rfl]; exact x_up_s
            · rw [if_neg e, x_up_k e]; exact hst w hw
          · by_cases e : j = k
            · subst e; exact hs3.mpr hb
            · exact hM j (by omega)
        · exact l_mo_gl0 hL hF' (hQ.tr hR1) (fun w => hb (hs3.mp (w.2 k (by omega))))
      have dead : ∀ (G' : Nat → Nat → Int), FM [166] [] G G' → x_Fin xFL G' → ¬ yof I q p k + p v ≤ m → X mX12_isGoal 0 0 0 (pGl L G0 n I q m p R) 145 [some (vR 127), some (vI (yof I q p k)), some (vI 0), some (vI k), some (vI (I q k)), some (vI 0)] [] L G' 0 0 := fun G' hR1 hF' hm' => by
        refine l_mo_glJ0 (p := p) (v := v) hL hF' hv (by omega) (by rw [hR1.at 165 v (by decide) (fun w => absurd w (by decide))]; exact hpv) (l_mo_gl0 hL hF' (hQ.tr hR1) (fun w => by have := w.1; omega))
      by_cases c : yst I q p k v = -1
      · rw [if_pos c] at hs1
        refine x_iloadn (pc := 26) dX12_isGoal_26 rfl ?_
        refine x_ieq (tgt := 222) (pc := 27) dX12_isGoal_27 (by decide) (by omega) (fun c_27 => ?_) (fun c_27 => ?_)
        · skip
          exact absurd c_27 (by decide)
        refine x_iloadn (pc := 30) dX12_isGoal_30 rfl ?_
        refine x_aloadn (pc := 31) dX12_isGoal_31 rfl ?_
        refine x_getI (pc := 32) dX12_isGoal_32 fl_X12_328 k_127 (hL 127 (by decide) (by decide)) ?_
        refine x_cge (tgt := 222) (pc := 35) dX12_isGoal_35 (by decide) (by omega) (fun c_35 => ?_) (fun c_35 => ?_)
        · skip
          exact absurd c_35 (by omega)
        refine x_aloadn (pc := 38) dX12_isGoal_38 rfl ?_
        refine x_getR (164) (pc := 39) dX12_isGoal_39 fl_X12_120 k_127 (hL 127 (by decide) (by decide)) (f_127_49 hF) ?_
        refine x_iloadn (pc := 42) dX12_isGoal_42 rfl ?_
        refine x_iald (k) (pc := 43) dX12_isGoal_43 k_164 (hL 164 (by decide) (by decide)) (⟨by omega, by omega, by decide⟩) ?_
        rw [e1]
        refine x_istore (pc := 44) dX12_isGoal_44 (by decide) rfl ?_
        refine x_iload (pc := 46) dX12_isGoal_46 rfl ?_
        refine x_iconst (pc := 48) dX12_isGoal_48 ?_
        refine x_cge (tgt := 83) (pc := 49) dX12_isGoal_49 (by decide) (by omega) (fun c_49 => ?_) (fun c_49 => ?_)
        rotate_left
        · skip
          exact absurd c_49 (by omega)
        refine x_iloadn (pc := 83) dX12_isGoal_83 rfl ?_
        refine x_aloadn (pc := 84) dX12_isGoal_84 rfl ?_
        refine x_getR (165) (pc := 85) dX12_isGoal_85 fl_X12_123 k_127 (hL 127 (by decide) (by decide)) (f_127_51 hF) ?_
        refine x_iload (pc := 88) dX12_isGoal_88 rfl ?_
        refine x_iconst (pc := 90) dX12_isGoal_90 ?_
        refine x_isub (pc := 91) dX12_isGoal_91 ?_
        refine x_iald (v) (pc := 92) dX12_isGoal_92 k_165 (hL 165 (by decide) (by decide)) (⟨by omega, by omega, by decide⟩) ?_
        refine x_iadd (pc := 93) dX12_isGoal_93 ?_
        refine x_aloadn (pc := 94) dX12_isGoal_94 rfl ?_
        refine x_getI (pc := 95) dX12_isGoal_95 fl_X12_331 k_127 (hL 127 (by decide) (by decide)) ?_
        refine x_cgt (tgt := 105) (pc := 98) dX12_isGoal_98 (by decide) (by omega) (fun c_98 => ?_) (fun c_98 => ?_)
        · skip
          refine x_iconst (pc := 105) dX12_isGoal_105 ?_
          refine x_istoren (pc := 106) dX12_isGoal_106 rfl (by decide) rfl ?_
          refine x_aloadn (pc := 107) dX12_isGoal_107 rfl ?_
          refine x_getR (166) (pc := 108) dX12_isGoal_108 fl_X12_126 k_127 (hL 127 (by decide) (by decide)) (f_127_52 hF) ?_
          refine x_iload (pc := 111) dX12_isGoal_111 rfl ?_
          refine x_iconst (pc := 113) dX12_isGoal_113 ?_
          refine x_isub (pc := 114) dX12_isGoal_114 ?_
          refine x_aloadn (pc := 115) dX12_isGoal_115 rfl ?_
          refine x_getR (166) (pc := 116) dX12_isGoal_116 fl_X12_126 k_127 (hL 127 (by decide) (by decide)) (f_127_52 hF) ?_
          refine x_iload (pc := 119) dX12_isGoal_119 rfl ?_
          refine x_iconst (pc := 121) dX12_isGoal_121 ?_
          refine x_isub (pc := 122) dX12_isGoal_122 ?_
          refine x_iald (v) (pc := 123) dX12_isGoal_123 k_166 (hL 166 (by decide) (by decide)) (⟨by omega, by omega, by decide⟩) ?_
          refine x_iconst (pc := 124) dX12_isGoal_124 ?_
          refine x_cne (tgt := 132) (pc := 125) dX12_isGoal_125 (by decide) (by omega) (fun c_125 => ?_) (fun c_125 => ?_)
          · skip
            exact absurd (hsv.trans c) c_125
          refine x_iloadn (pc := 128) dX12_isGoal_128 rfl ?_
          refine x_goto (tgt := 141) (pc := 129) dX12_isGoal_129 (by decide) ?_
          refine x_iastF (v) (pc := 141) dX12_isGoal_141 k_166 (hL 166 (by decide) (by decide)) (⟨by omega, by omega, by decide⟩) hF (fun hF => ?_)
          have hup : x_up G 166 v (yof I q p k : Int) = x_up G 166 v s := by rw [hs1]
          refine x_iconst (pc := 142) dX12_isGoal_142 ?_
          refine x_istore (pc := 143) dX12_isGoal_143 (by decide) rfl ?_
          first
          | exact step _ none hup hF (by omega)
          | exact dead _ (FM.rf.upA (by decide)) hF (by omega)
        · skip
          refine x_iconst (pc := 101) dX12_isGoal_101 ?_
          refine x_goto (tgt := 106) (pc := 102) dX12_isGoal_102 (by decide) ?_
          refine x_istoren (pc := 106) dX12_isGoal_106 rfl (by decide) rfl ?_
          refine x_aloadn (pc := 107) dX12_isGoal_107 rfl ?_
          refine x_getR (166) (pc := 108) dX12_isGoal_108 fl_X12_126 k_127 (hL 127 (by decide) (by decide)) (f_127_52 hF) ?_
          refine x_iload (pc := 111) dX12_isGoal_111 rfl ?_
          refine x_iconst (pc := 113) dX12_isGoal_113 ?_
          refine x_isub (pc := 114) dX12_isGoal_114 ?_
          refine x_aloadn (pc := 115) dX12_isGoal_115 rfl ?_
          refine x_getR (166) (pc := 116) dX12_isGoal_116 fl_X12_126 k_127 (hL 127 (by decide) (by decide)) (f_127_52 hF) ?_
          refine x_iload (pc := 119) dX12_isGoal_119 rfl ?_
          refine x_iconst (pc := 121) dX12_isGoal_121 ?_
          refine x_isub (pc := 122) dX12_isGoal_122 ?_
          refine x_iald (v) (pc := 123) dX12_isGoal_123 k_166 (hL 166 (by decide) (by decide)) (⟨by omega, by omega, by decide⟩) ?_
          refine x_iconst (pc := 124) dX12_isGoal_124 ?_
          refine x_cne (tgt := 132) (pc := 125) dX12_isGoal_125 (by decide) (by omega) (fun c_125 => ?_) (fun c_125 => ?_)
          · skip
            exact absurd (hsv.trans c) c_125
          refine x_iloadn (pc := 128) dX12_isGoal_128 rfl ?_
          refine x_goto (tgt := 141) (pc := 129) dX12_isGoal_129 (by decide) ?_
          refine x_iastF (v) (pc := 141) dX12_isGoal_141 k_166 (hL 166 (by decide) (by decide)) (⟨by omega, by omega, by decide⟩) hF (fun hF => ?_)
          have hup : x_up G 166 v (yof I q p k : Int) = x_up G 166 v s := by rw [hs1]
          refine x_iconst (pc := 142) dX12_isGoal_142 ?_
          refine x_istore (pc := 143) dX12_isGoal_143 (by decide) rfl ?_
          first
          | exact step _ none hup hF (by omega)
          | exact dead _ (FM.rf.upA (by decide)) hF (by omega)
      · rw [if_neg c] at hs1
        refine x_iloadn (pc := 26) dX12_isGoal_26 rfl ?_
        refine x_ieq (tgt := 222) (pc := 27) dX12_isGoal_27 (by decide) (by omega) (fun c_27 => ?_) (fun c_27 => ?_)
        · skip
          exact absurd c_27 (by decide)
        refine x_iloadn (pc := 30) dX12_isGoal_30 rfl ?_
        refine x_aloadn (pc := 31) dX12_isGoal_31 rfl ?_
        refine x_getI (pc := 32) dX12_isGoal_32 fl_X12_328 k_127 (hL 127 (by decide) (by decide)) ?_
        refine x_cge (tgt := 222) (pc := 35) dX12_isGoal_35 (by decide) (by omega) (fun c_35 => ?_) (fun c_35 => ?_)
        · skip
          exact absurd c_35 (by omega)
        refine x_aloadn (pc := 38) dX12_isGoal_38 rfl ?_
        refine x_getR (164) (pc := 39) dX12_isGoal_39 fl_X12_120 k_127 (hL 127 (by decide) (by decide)) (f_127_49 hF) ?_
        refine x_iloadn (pc := 42) dX12_isGoal_42 rfl ?_
        refine x_iald (k) (pc := 43) dX12_isGoal_43 k_164 (hL 164 (by decide) (by decide)) (⟨by omega, by omega, by decide⟩) ?_
        rw [e1]
        refine x_istore (pc := 44) dX12_isGoal_44 (by decide) rfl ?_
        refine x_iload (pc := 46) dX12_isGoal_46 rfl ?_
        refine x_iconst (pc := 48) dX12_isGoal_48 ?_
        refine x_cge (tgt := 83) (pc := 49) dX12_isGoal_49 (by decide) (by omega) (fun c_49 => ?_) (fun c_49 => ?_)
        rotate_left
        · skip
          exact absurd c_49 (by omega)
        refine x_iloadn (pc := 83) dX12_isGoal_83 rfl ?_
        refine x_aloadn (pc := 84) dX12_isGoal_84 rfl ?_
        refine x_getR (165) (pc := 85) dX12_isGoal_85 fl_X12_123 k_127 (hL 127 (by decide) (by decide)) (f_127_51 hF) ?_
        refine x_iload (pc := 88) dX12_isGoal_88 rfl ?_
        refine x_iconst (pc := 90) dX12_isGoal_90 ?_
        refine x_isub (pc := 91) dX12_isGoal_91 ?_
        refine x_iald (v) (pc := 92) dX12_isGoal_92 k_165 (hL 165 (by decide) (by decide)) (⟨by omega, by omega, by decide⟩) ?_
        refine x_iadd (pc := 93) dX12_isGoal_93 ?_
        refine x_aloadn (pc := 94) dX12_isGoal_94 rfl ?_
        refine x_getI (pc := 95) dX12_isGoal_95 fl_X12_331 k_127 (hL 127 (by decide) (by decide)) ?_
        refine x_cgt (tgt := 105) (pc := 98) dX12_isGoal_98 (by decide) (by omega) (fun c_98 => ?_) (fun c_98 => ?_)
        · skip
          refine x_iconst (pc := 105) dX12_isGoal_105 ?_
          refine x_istoren (pc := 106) dX12_isGoal_106 rfl (by decide) rfl ?_
          refine x_aloadn (pc := 107) dX12_isGoal_107 rfl ?_
          refine x_getR (166) (pc := 108) dX12_isGoal_108 fl_X12_126 k_127 (hL 127 (by decide) (by decide)) (f_127_52 hF) ?_
          refine x_iload (pc := 111) dX12_isGoal_111 rfl ?_
          refine x_iconst (pc := 113) dX12_isGoal_113 ?_
          refine x_isub (pc := 114) dX12_isGoal_114 ?_
          refine x_aloadn (pc := 115) dX12_isGoal_115 rfl ?_
          refine x_getR (166) (pc := 116) dX12_isGoal_116 fl_X12_126 k_127 (hL 127 (by decide) (by decide)) (f_127_52 hF) ?_
          refine x_iload (pc := 119) dX12_isGoal_119 rfl ?_
          refine x_iconst (pc := 121) dX12_isGoal_121 ?_
          refine x_isub (pc := 122) dX12_isGoal_122 ?_
          refine x_iald (v) (pc := 123) dX12_isGoal_123 k_166 (hL 166 (by decide) (by decide)) (⟨by omega, by omega, by decide⟩) ?_
          refine x_iconst (pc := 124) dX12_isGoal_124 ?_
          refine x_cne (tgt := 132) (pc := 125) dX12_isGoal_125 (by decide) (by omega) (fun c_125 => ?_) (fun c_125 => ?_)
          rotate_left
          · skip
            exact absurd (hsv.symm.trans c_125) c
          refine x_aloadn (pc := 132) dX12_isGoal_132 rfl ?_
          refine x_getR (166) (pc := 133) dX12_isGoal_133 fl_X12_126 k_127 (hL 127 (by decide) (by decide)) (f_127_52 hF) ?_
          refine x_iload (pc := 136) dX12_isGoal_136 rfl ?_
          refine x_iconst (pc := 138) dX12_isGoal_138 ?_
          refine x_isub (pc := 139) dX12_isGoal_139 ?_
          refine x_iald (v) (pc := 140) dX12_isGoal_140 k_166 (hL 166 (by decide) (by decide)) (⟨by omega, by omega, by decide⟩) ?_
          refine x_iastF (v) (pc := 141) dX12_isGoal_141 k_166 (hL 166 (by decide) (by decide)) (⟨by omega, by omega, by decide⟩) hF (fun hF => ?_)
          have hup : x_up G 166 v (G 166 v) = x_up G 166 v s := by rw [hsv, hs1]
          refine x_iconst (pc := 142) dX12_isGoal_142 ?_
          refine x_istore (pc := 143) dX12_isGoal_143 (by decide) rfl ?_
          first
          | exact step _ none hup hF (by omega)
          | exact dead _ (FM.rf.upA (by decide)) hF (by omega)
        · skip
          refine x_iconst (pc := 101) dX12_isGoal_101 ?_
          refine x_goto (tgt := 106) (pc := 102) dX12_isGoal_102 (by decide) ?_
          refine x_istoren (pc := 106) dX12_isGoal_106 rfl (by decide) rfl ?_
          refine x_aloadn (pc := 107) dX12_isGoal_107 rfl ?_
          refine x_getR (166) (pc := 108) dX12_isGoal_108 fl_X12_126 k_127 (hL 127 (by decide) (by decide)) (f_127_52 hF) ?_
          refine x_iload (pc := 111) dX12_isGoal_111 rfl ?_
          refine x_iconst (pc := 113) dX12_isGoal_113 ?_
          refine x_isub (pc := 114) dX12_isGoal_114 ?_
          refine x_aloadn (pc := 115) dX12_isGoal_115 rfl ?_
          refine x_getR (166) (pc := 116) dX12_isGoal_116 fl_X12_126 k_127 (hL 127 (by decide) (by decide)) (f_127_52 hF) ?_
          refine x_iload (pc := 119) dX12_isGoal_119 rfl ?_
          refine x_iconst (pc := 121) dX12_isGoal_121 ?_
          refine x_isub (pc := 122) dX12_isGoal_122 ?_
          refine x_iald (v) (pc := 123) dX12_isGoal_123 k_166 (hL 166 (by decide) (by decide)) (⟨by omega, by omega, by decide⟩) ?_
          refine x_iconst (pc := 124) dX12_isGoal_124 ?_
          refine x_cne (tgt := 132) (pc := 125) dX12_isGoal_125 (by decide) (by omega) (fun c_125 => ?_) (fun c_125 => ?_)
          rotate_left
          · skip
            exact absurd (hsv.symm.trans c_125) c
          refine x_aloadn (pc := 132) dX12_isGoal_132 rfl ?_
          refine x_getR (166) (pc := 133) dX12_isGoal_133 fl_X12_126 k_127 (hL 127 (by decide) (by decide)) (f_127_52 hF) ?_
          refine x_iload (pc := 136) dX12_isGoal_136 rfl ?_
          refine x_iconst (pc := 138) dX12_isGoal_138 ?_
          refine x_isub (pc := 139) dX12_isGoal_139 ?_
          refine x_iald (v) (pc := 140) dX12_isGoal_140 k_166 (hL 166 (by decide) (by decide)) (⟨by omega, by omega, by decide⟩) ?_
          refine x_iastF (v) (pc := 141) dX12_isGoal_141 k_166 (hL 166 (by decide) (by decide)) (⟨by omega, by omega, by decide⟩) hF (fun hF => ?_)
          have hup : x_up G 166 v (G 166 v) = x_up G 166 v s := by rw [hsv, hs1]
          refine x_iconst (pc := 142) dX12_isGoal_142 ?_
          refine x_istore (pc := 143) dX12_isGoal_143 (by decide) rfl ?_
          first
          | exact step _ none hup hF (by omega)
          | exact dead _ (FM.rf.upA (by decide)) hF (by omega)
theorem l_mo_gl2 {p : Nat → Nat} {G0 : Nat → Nat → Int} (hL : x_SL L) (hp4 : ∀ v, v < 4 → p v ≤ 30) (hG : mGo n I q m R G0) (hp : ∀ v, v < 4 → G0 165 v = p v) :
    ∀ (r u : Nat) (G : Nat → Nat → Int), u + r = 4 → (∀ v, v < u → G 166 v = -1) → FM [166] [] G0 G → x_Fin xFL G →
    X mX12_isGoal 0 0 0 (pGl L G0 n I q m p R) 2 [some (vR 127), some (vI u), none, none, none, none] [] L G 0 0 := by
  intro r
  induction r with
  | zero =>
    intro u G hu h hQ hF
    have hu : u = 4 := by omega
    subst hu
    refine x_iloadn (pc := 2) dX12_isGoal_2 rfl ?_
    refine x_iconst (pc := 3) dX12_isGoal_3 ?_
    refine x_cge (tgt := 20) (pc := 4) dX12_isGoal_4 (by decide) (by omega) (fun c_4 => ?_) (fun c_4 => ?_)
    rotate_left
    · skip
      exact absurd c_4 (by decide)
    refine x_iconst (pc := 20) dX12_isGoal_20 ?_
    refine x_istoren (pc := 21) dX12_isGoal_21 rfl (by decide) rfl ?_
    refine x_iconst (pc := 22) dX12_isGoal_22 ?_
    refine x_istoren (pc := 23) dX12_isGoal_23 rfl (by decide) rfl ?_
    refine x_iconst (pc := 24) dX12_isGoal_24 ?_
    refine x_istoren (pc := 25) dX12_isGoal_25 rfl (by decide) rfl ?_
    exact l_mo_gl hL hp4 n 0 G none none (by omega) (hG.FM (hQ.mono (by decide) (by decide))) (fun v hv => by rw [hQ.at 165 v (by decide) (fun w => absurd w (by decide))]; exact hp v hv) (fun v hv => h v hv) (fun j hj => absurd hj (Nat.not_lt_zero j)) (Nat.zero_le _) hQ hF
  | succ r ih =>
    intro u G hu h hQ hF
    refine x_iloadn (pc := 2) dX12_isGoal_2 rfl ?_
    refine x_iconst (pc := 3) dX12_isGoal_3 ?_
    refine x_cge (tgt := 20) (pc := 4) dX12_isGoal_4 (by decide) (by omega) (fun c_4 => ?_) (fun c_4 => ?_)
    · skip
      exact absurd c_4 (by omega)
    refine x_aloadn (pc := 7) dX12_isGoal_7 rfl ?_
    refine x_getR (166) (pc := 8) dX12_isGoal_8 fl_X12_126 k_127 (hL 127 (by decide) (by decide)) (f_127_52 hF) ?_
    refine x_iloadn (pc := 11) dX12_isGoal_11 rfl ?_
    refine x_iconst (pc := 12) dX12_isGoal_12 ?_
    refine x_iastF (u) (pc := 13) dX12_isGoal_13 k_166 (hL 166 (by decide) (by decide)) (⟨by omega, by omega, by decide⟩) hF (fun hF => ?_)
    refine x_iinc (pc := 14) dX12_isGoal_14 rfl (by decide) rfl ?_
    refine x_goto (tgt := 2) (pc := 17) dX12_isGoal_17 (by decide) ?_
    refine ih (u + 1) _ (by omega) (fun v hv => ?_) (hQ.upA (by decide)) hF
    by_cases e : v = u
    · subst e; exact x_up_s
    · rw [x_up_k e]; exact h v (by omega)
theorem c_mo_isGoal {p : Nat → Nat} {G : Nat → Nat → Int} (hL : x_SL L) (hF : x_Fin xFL G) (hG : mGo n I q m R G) (hp4 : ∀ v, v < 4 → p v ≤ 30) (hp : ∀ v, v < 4 → G 165 v = p v) :
    CM yX12_isGoal mX12_isGoal 0 0 0 [vR 127] L G (pGl L G n I q m p R) := by
  refine Ct.of_X (μ := mX12_isGoal) rfl rfl (by decide) (fun h => by cases h) (Nat.le_of_ble_eq_true rfl) rfl ?_
  refine x_iconst (pc := 0) dX12_isGoal_0 ?_
  refine x_istoren (pc := 1) dX12_isGoal_1 rfl (by decide) rfl ?_
  exact l_mo_gl2 hL hp4 hG hp 4 0 G (by omega) (fun v hv => absurd hv (Nat.not_lt_zero v)) FM.rf hF
end XMG

