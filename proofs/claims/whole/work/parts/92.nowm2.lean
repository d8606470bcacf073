/-! the reference's waysNow: every node alone, then the joins -/
theorem zMn.cg2 {E F : Nat → Nat → Prop} {f : Nat → Nat} (h : zMn E f) (h1 : ∀ i j, E i j → F i j) (h2 : ∀ i j, F i j → E i j) : zMn F f := fun i =>
  ⟨(h i).1, zQ.mono (fun a b e => .base (h1 a b e)) (h i).2.1, fun j e => (h i).2.2 j (h2 i j e)⟩
theorem zrf_lt {i : Nat} (h : i < 35) : zrf i < 35 := by unfold zrf; split <;> omega
def zin (v : Nat) : Nat := if v < 32 then 7 else 2 ^ (v - 32)
theorem zin_lt {v : Nat} (h : v < 35) : zin v < 8 := by
  unfold zin
  split
  · decide
  · rcases (show v = 32 ∨ v = 33 ∨ v = 34 by omega) with rfl | rfl | rfl <;> decide
section XMX
variable {m : Nat} {S : Nat → Nat} {I : Nat → Nat → Nat} {lo hi mk z g : Nat → Nat} {L : List Nat}
theorem l_mo_wC {Q : x_Q} {w : Int} {G1 : Nat → Nat → Int} {o3 o4 o5 : Option (Nat × Int)} (hL : x_SL L)
    (cont : ∀ (G : Nat → Nat → Int), (∀ v, v < 35 → G 146 v = (v : Int) ∧ G 147 v = ((zin v : Nat) : Int)) → FM [146, 147] [] G1 G → x_Fin xFL G → X mX12_waysNow 2 0 0 Q 178 [some (vR 127), some (vI w), some (vI 35), o3, o4, o5] [] L G 0 0) :
    ∀ (r x : Nat) (G : Nat → Nat → Int), x + r = 35 → (∀ v, v < x → G 146 v = (v : Int) ∧ G 147 v = ((zin v : Nat) : Int)) → FM [146, 147] [] G1 G → x_Fin xFL G →
    X mX12_waysNow 2 0 0 Q 136 [some (vR 127), some (vI w), some (vI x), o3, o4, o5] [] L G 0 0 := by
  intro r
  induction r with
  | zero =>
    intro x G hx hv hQ hF
    have hx : x = 35 := by omega
    subst hx
    refine x_iloadn (pc := 136) dX12_waysNow_136 rfl ?_
    refine x_bipush (pc := 137) dX12_waysNow_137 (by decide) ?_
    refine x_cge (tgt := 178) (pc := 139) dX12_waysNow_139 (by decide) (by omega) (fun c_139 => ?_) (fun c_139 => ?_)
    rotate_left
    · skip
      exact absurd c_139 (by decide)
    exact cont G hv hQ hF
  | succ r ih =>
    intro x G hx hv hQ hF
    have hc : zin x = if x < 32 then 7 else 2 ^ (x - 32) := rfl
    have hlt := zin_lt (v := x) (by omega)
    have step : ∀ (c : Int), c = ((zin x : Nat) : Int) → (∀ v, v < x + 1 → (x_up (x_up G 146 x (x : Int)) 147 x c) 146 v = (v : Int) ∧ (x_up (x_up G 146 x (x : Int)) 147 x c) 147 v = ((zin v : Nat) : Int)) := fun c hcc v hvx => by
      by_cases e : v = x
      · subst e; simp [x_up]; exact hcc
      · have := hv v (by omega); simp [x_up, e]; exact this
    refine x_iloadn (pc := 136) dX12_waysNow_136 rfl ?_
    refine x_bipush (pc := 137) dX12_waysNow_137 (by decide) ?_
    refine x_cge (tgt := 178) (pc := 139) dX12_waysNow_139 (by decide) (by omega) (fun c_139 => ?_) (fun c_139 => ?_)
    · skip
      exact absurd c_139 (by omega)
    refine x_aloadn (pc := 142) dX12_waysNow_142 rfl ?_
    refine x_getR (146) (pc := 143) dX12_waysNow_143 fl_X12_64 k_127 (hL 127 (by decide) (by decide)) (f_127_23 hF) ?_
    refine x_iloadn (pc := 146) dX12_waysNow_146 rfl ?_
    refine x_iloadn (pc := 147) dX12_waysNow_147 rfl ?_
    refine x_iastF (x) (pc := 148) dX12_waysNow_148 k_146 (hL 146 (by decide) (by decide)) (⟨by omega, by omega, by decide⟩) hF (fun hF => ?_)
    refine x_aloadn (pc := 149) dX12_waysNow_149 rfl ?_
    refine x_getR (147) (pc := 150) dX12_waysNow_150 fl_X12_67 k_127 (hL 127 (by decide) (by decide)) (f_127_24 hF) ?_
    refine x_iloadn (pc := 153) dX12_waysNow_153 rfl ?_
    refine x_iloadn (pc := 154) dX12_waysNow_154 rfl ?_
    refine x_bipush (pc := 155) dX12_waysNow_155 (by decide) ?_
    refine x_cge (tgt := 165) (pc := 157) dX12_waysNow_157 (by decide) (by omega) (fun c_157 => ?_) (fun c_157 => ?_)
    · skip
      refine x_iconst (pc := 165) dX12_waysNow_165 ?_
      refine x_iloadn (pc := 166) dX12_waysNow_166 rfl ?_
      refine x_bipush (pc := 167) dX12_waysNow_167 (by decide) ?_
      refine x_isub (pc := 169) dX12_waysNow_169 ?_
      refine x_ishl (pc := 170) dX12_waysNow_170 (x - 32) (by omega) (by omega) ?_
      first
      | rw [if_pos (by omega)] at hc
      | (rw [if_neg (by omega)] at hc
         rw [show (1 : Int) * 2 ^ (x - 32) = ((zin x : Nat) : Int) by rw [hc]; simp])
      refine x_iastF (x) (pc := 171) dX12_waysNow_171 k_147 (hL 147 (by decide) (by decide)) (⟨by omega, by omega, by decide⟩) hF (fun hF => ?_)
      refine x_iinc (pc := 172) dX12_waysNow_172 rfl (by decide) rfl ?_
      refine x_goto (tgt := 136) (pc := 175) dX12_waysNow_175 (by decide) ?_
      exact ih (x + 1) _ (by omega) (step _ (by omega)) ((hQ.upA (by decide)).upA (by decide)) hF
    · skip
      refine x_bipush (pc := 160) dX12_waysNow_160 (by decide) ?_
      refine x_goto (tgt := 171) (pc := 162) dX12_waysNow_162 (by decide) ?_
      first
      | rw [if_pos (by omega)] at hc
      | (rw [if_neg (by omega)] at hc
         rw [show (1 : Int) * 2 ^ (x - 32) = ((zin x : Nat) : Int) by rw [hc]; simp])
      refine x_iastF (x) (pc := 171) dX12_waysNow_171 k_147 (hL 147 (by decide) (by decide)) (⟨by omega, by omega, by decide⟩) hF (fun hF => ?_)
      refine x_iinc (pc := 172) dX12_waysNow_172 rfl (by decide) rfl ?_
      refine x_goto (tgt := 136) (pc := 175) dX12_waysNow_175 (by decide) ?_
      exact ih (x + 1) _ (by omega) (step _ (by omega)) ((hQ.upA (by decide)).upA (by decide)) hF
theorem l_mo_wDj {Q : x_Q} {w : Int} {G1 : Nat → Nat → Int} {e : Nat} {o5 : Option (Nat × Int)} (hL : x_SL L) (hE1 : mEq m S I G1) (hz1 : mFL z G1) (hb1 : mBg z G1) (hl : zLn m S I z) (he : e < m)
    (cont : ∀ (G : Nat → Nat → Int) (f : Nat → Nat), zMn (zEr (zEp S I z (e + 1) 0)) f → mLd f G → FM [146] [] G1 G → x_Fin xFL G → ∀ o3 o4, X mX12_waysNow 2 0 0 Q 180 [some (vR 127), some (vI w), some (vI ((e : Int) + 1)), o3, o4, o5] [] L G 0 0) :
    ∀ (r t : Nat) (G : Nat → Nat → Int) (f : Nat → Nat), t + r = yof I (2 * e) z (S (2 * e)) → zMn (zEr (zEp S I z e t)) f → mLd f G → FM [146] [] G1 G → x_Fin xFL G →
    X mX12_waysNow 2 0 0 Q 199 [some (vR 127), some (vI w), some (vI e), some (vI ((yof I (2 * e) z (S (2 * e)) : Nat) : Int)), some (vI t), o5] [] L G 0 0 := by
  obtain ⟨_, h2, h3⟩ := id hE1
  have y1 := zof_96 (fun u hu => (hz1 u hu).2) (fun j hj => ((h3 (2 * e) (by omega)).2.2 j hj).2) (S (2 * e)) (Nat.le_refl _)
  have y3 := (h3 (2 * e) (by omega)).2.1
  have hN := zbg_4 (fun u hu => (hz1 u hu).2) 4 (Nat.le_refl _)
  intro r
  induction r with
  | zero =>
    intro t G f ht hf hU hQ hF
    have ht : t = yof I (2 * e) z (S (2 * e)) := by omega
    have hf' : zMn (zEr (zEp S I z (e + 1) 0)) f := hf.cg2 (fun i j ⟨a, b, h, h'⟩ => ⟨a, b, zEp_e.mp (by rw [← ht]; exact h), h'⟩) (fun i j ⟨a, b, h, h'⟩ => ⟨a, b, by rw [ht]; exact zEp_e.mpr h, h'⟩)
    refine x_iload (pc := 199) dX12_waysNow_199 rfl ?_
    refine x_iloadn (pc := 201) dX12_waysNow_201 rfl ?_
    refine x_cge (tgt := 235) (pc := 202) dX12_waysNow_202 (by decide) (by omega) (fun c_202 => ?_) (fun c_202 => ?_)
    rotate_left
    · skip
      exact absurd c_202 (by omega)
    refine x_iinc (pc := 235) dX12_waysNow_235 rfl (by decide) rfl ?_
    refine x_goto (tgt := 180) (pc := 238) dX12_waysNow_238 (by decide) ?_
    exact cont G f hf' hU hQ hF _ _
  | succ r ih =>
    intro t G f ht hf hU hQ hF
    have hE := hE1.FM hQ (by decide) (by decide) (by decide) (by decide)
    have hz := hz1.FM hQ (by decide)
    have hb := hb1.FM hQ (by decide)
    have hle := hl e he
    have n1 := zrf_lt (i := zrw I (2 * e) z (S (2 * e)) t) (by have := zrw_lt (z := z) (S (2 * e)) (fun j hj => ((h3 (2 * e) (by omega)).2.2 j hj).2) t (by omega); omega)
    have n2 := zrf_lt (i := zrw I (2 * e + 1) z (S (2 * e + 1)) t) (by have := zrw_lt (z := z) (S (2 * e + 1)) (fun j hj => ((h3 (2 * e + 1) (by omega)).2.2 j hj).2) t (by omega); omega)
    have hj := (hf.join (zrf (zrw I (2 * e) z (S (2 * e)) t)) (zrf (zrw I (2 * e + 1) z (S (2 * e + 1)) t))).cg2 (F := zEr (zEp S I z e (t + 1))) (fun i j h => by
      rcases h with ⟨a, b, h, h'⟩ | ⟨h, h'⟩
      · exact ⟨a, b, zEp_s.mpr (Or.inl h), h'⟩
      · exact ⟨_, _, zEp_s.mpr (Or.inr ⟨rfl, rfl⟩), h, h'⟩) (fun i j ⟨a, b, h, h1, h2⟩ => by
      rcases zEp_s.mp h with h | ⟨ha, hb⟩
      · exact Or.inl ⟨a, b, h, h1, h2⟩
      · exact Or.inr ⟨by rw [h1, ha], by rw [h2, hb]⟩)
    refine x_iload (pc := 199) dX12_waysNow_199 rfl ?_
    refine x_iloadn (pc := 201) dX12_waysNow_201 rfl ?_
    refine x_cge (tgt := 235) (pc := 202) dX12_waysNow_202 (by decide) (by omega) (fun c_202 => ?_) (fun c_202 => ?_)
    · skip
      exact absurd c_202 (by omega)
    refine x_aloadn (pc := 205) dX12_waysNow_205 rfl ?_
    refine x_aloadn (pc := 206) dX12_waysNow_206 rfl ?_
    refine x_iconst (pc := 207) dX12_waysNow_207 ?_
    refine x_iloadn (pc := 208) dX12_waysNow_208 rfl ?_
    refine x_imul (pc := 209) dX12_waysNow_209 ?_
    refine x_iload (pc := 210) dX12_waysNow_210 rfl ?_
    refine x_cVI (pc := 212) dX12_waysNow_212 lk_X12_178 (c_mo_placeAt hL hF hE hz hb (q := 2 * e) (t := t) (by omega) (by omega)) k_127 ⟨by decide, rfl⟩ (hL 127 (by decide) (by decide)) (⟨by decide, by decide⟩) (Nat.le_of_ble_eq_true rfl) rfl ?_
    rintro x G' ⟨rfl, rfl⟩
    refine x_aloadn (pc := 215) dX12_waysNow_215 rfl ?_
    refine x_iconst (pc := 216) dX12_waysNow_216 ?_
    refine x_iloadn (pc := 217) dX12_waysNow_217 rfl ?_
    refine x_imul (pc := 218) dX12_waysNow_218 ?_
    refine x_iconst (pc := 219) dX12_waysNow_219 ?_
    refine x_iadd (pc := 220) dX12_waysNow_220 ?_
    refine x_iload (pc := 221) dX12_waysNow_221 rfl ?_
    refine x_cVI (pc := 223) dX12_waysNow_223 lk_X12_178 (c_mo_placeAt hL hF hE hz hb (q := 2 * e + 1) (t := t) (by omega) (by omega)) k_127 ⟨by decide, rfl⟩ (hL 127 (by decide) (by decide)) (⟨by decide, by decide⟩) (Nat.le_of_ble_eq_true rfl) rfl ?_
    rintro x G' ⟨rfl, rfl⟩
    refine x_cVV (pc := 226) dX12_waysNow_226 lk_X12_182 (c_mo_makeOne hL hF hU n1 n2) k_127 ⟨by decide, rfl⟩ (hL 127 (by decide) (by decide)) (⟨by decide, by decide⟩) (Nat.le_of_ble_eq_true rfl) rfl ?_
    rintro G2 ⟨k1, k2, hF⟩
    refine x_iinc (pc := 229) dX12_waysNow_229 rfl (by decide) rfl ?_
    refine x_goto (tgt := 199) (pc := 232) dX12_waysNow_232 (by decide) ?_
    exact ih (t + 1) _ _ (by omega) hj k1 (hQ.tr k2) hF
theorem l_mo_wD {Q : x_Q} {w : Int} {G1 : Nat → Nat → Int} {o5 : Option (Nat × Int)} (hL : x_SL L) (hE1 : mEq m S I G1) (hz1 : mFL z G1) (hb1 : mBg z G1) (hl : zLn m S I z)
    (cont : ∀ (G : Nat → Nat → Int), mLd (zg m S I z) G → FM [146] [] G1 G → x_Fin xFL G → ∀ o3 o4, X mX12_waysNow 2 0 0 Q 241 [some (vR 127), some (vI w), some (vI m), o3, o4, o5] [] L G 0 0) :
    ∀ (r e : Nat) (G : Nat → Nat → Int) (f : Nat → Nat) (o3 o4 : Option (Nat × Int)), e + r = m → zMn (zEr (zEp S I z e 0)) f → mLd f G → FM [146] [] G1 G → x_Fin xFL G →
    X mX12_waysNow 2 0 0 Q 180 [some (vR 127), some (vI w), some (vI e), o3, o4, o5] [] L G 0 0 := by
  intro r
  induction r with
  | zero =>
    intro e G f o3 o4 he hf hU hQ hF
    have he : e = m := by omega
    subst he
    have hE := hE1.FM hQ (by decide) (by decide) (by decide) (by decide)
    have h1 := hE.1
    have h2 := hE.2.1
    have hg : f = zg e S I z := funext fun i => (hf.cg2 (F := zEr (zE e S I z)) (fun i j ⟨a, b, h, h'⟩ => ⟨a, b, zEp_m.mp h, h'⟩) (fun i j ⟨a, b, h, h'⟩ => ⟨a, b, zEp_m.mpr h, h'⟩)).gm i
    subst hg
    refine x_iloadn (pc := 180) dX12_waysNow_180 rfl ?_
    refine x_aloadn (pc := 181) dX12_waysNow_181 rfl ?_
    refine x_getI (pc := 182) dX12_waysNow_182 fl_X12_154 k_127 (hL 127 (by decide) (by decide)) ?_
    refine x_cge (tgt := 241) (pc := 185) dX12_waysNow_185 (by decide) (by omega) (fun c_185 => ?_) (fun c_185 => ?_)
    rotate_left
    · skip
      exact absurd c_185 (by omega)
    exact cont G hU hQ hF _ _
  | succ r ih =>
    intro e G f o3 o4 he hf hU hQ hF
    have hE := hE1.FM hQ (by decide) (by decide) (by decide) (by decide)
    have hz := hz1.FM hQ (by decide)
    have h1 := hE.1
    have h2 := hE.2.1
    refine x_iloadn (pc := 180) dX12_waysNow_180 rfl ?_
    refine x_aloadn (pc := 181) dX12_waysNow_181 rfl ?_
    refine x_getI (pc := 182) dX12_waysNow_182 fl_X12_154 k_127 (hL 127 (by decide) (by decide)) ?_
    refine x_cge (tgt := 241) (pc := 185) dX12_waysNow_185 (by decide) (by omega) (fun c_185 => ?_) (fun c_185 => ?_)
    · skip
      exact absurd c_185 (by omega)
    refine x_aloadn (pc := 188) dX12_waysNow_188 rfl ?_
    refine x_iconst (pc := 189) dX12_waysNow_189 ?_
    refine x_iloadn (pc := 190) dX12_waysNow_190 rfl ?_
    refine x_imul (pc := 191) dX12_waysNow_191 ?_
    refine x_cVI (pc := 192) dX12_waysNow_192 lk_X12_175 (c_mo_lengthOf hL hF hE hz (q := 2 * e) (by omega)) k_127 ⟨by decide, rfl⟩ (hL 127 (by decide) (by decide)) (⟨by decide, by decide⟩) (Nat.le_of_ble_eq_true rfl) rfl ?_
    rintro x G' ⟨rfl, rfl⟩
    refine x_istoren (pc := 195) dX12_waysNow_195 rfl (by decide) rfl ?_
    refine x_iconst (pc := 196) dX12_waysNow_196 ?_
    refine x_istore (pc := 197) dX12_waysNow_197 (by decide) rfl ?_
    exact l_mo_wDj hL hE1 hz1 hb1 hl (by omega) (fun G f a1 a2 a3 a4 o3 o4 => ih (e + 1) G f o3 o4 (by omega) a1 a2 a3 a4) _ 0 _ f (Nat.zero_add _) hf hU hQ hF
end XMX

