/-! the reference's waysNow: letters left to each class -/
def mCn (D : Nat → Prop) (bb g : Nat → Nat) (G : Nat → Nat → Int) : Prop := ∀ x, x < 35 → ∃ c : Nat, G 147 x = c ∧ c < 8 ∧ ∀ d, d < 3 → (zbt c d = 1 ↔ zbt (zin x) d = 1 ∧ ∀ p, D p → g p = x → zbt (bb p) d = 1)
theorem mCn.step {D : Nat → Prop} {bb g : Nat → Nat} {G : Nat → Nat → Int} {p : Nat} (h : mCn D bb g G) (hp : g p < 35) (hb : bb p < 8) : ∃ c : Nat, G 147 (g p) = c ∧ c < 8 ∧ mCn (fun q => D q ∨ q = p) bb g (x_up G 147 (g p) ((c &&& bb p : Nat) : Int)) := by
  obtain ⟨c, e1, e2, e3⟩ := h (g p) hp
  refine ⟨c, e1, e2, fun x hx => ?_⟩
  by_cases w : x = g p
  · subst w
    obtain ⟨n1, n2⟩ := zbt_and c e2 (bb p) hb
    refine ⟨_, x_up_s, n1, fun d hd => ?_⟩
    rw [n2 d hd, e3 d hd]
    constructor
    · rintro ⟨⟨a, b⟩, k⟩
      refine ⟨a, fun q hq hg => ?_⟩
      rcases hq with hq | rfl
      · exact b q hq hg
      · exact k
    · rintro ⟨a, b⟩
      exact ⟨⟨a, fun q hq hg => b q (Or.inl hq) hg⟩, b p (Or.inr rfl) rfl⟩
  · obtain ⟨c', k1, k2, k3⟩ := h x hx
    refine ⟨c', by rw [x_up_k w]; exact k1, k2, fun d hd => ?_⟩
    rw [k3 d hd]
    constructor
    · rintro ⟨a, b⟩
      refine ⟨a, fun q hq hg => ?_⟩
      rcases hq with hq | rfl
      · exact b q hq hg
      · exact absurd hg.symm w
    · rintro ⟨a, b⟩
      exact ⟨a, fun q hq hg => b q (Or.inl hq) hg⟩
theorem mCn.cg {D D' : Nat → Prop} {bb g : Nat → Nat} {G : Nat → Nat → Int} (h : mCn D bb g G) (hD : ∀ q, D q ↔ D' q) : mCn D' bb g G := by
  have : D = D' := funext fun q => propext (hD q)
  rw [← this]; exact h
section XMY
variable {m : Nat} {S : Nat → Nat} {I : Nat → Nat → Nat} {lo hi mk z g : Nat → Nat} {L : List Nat}
def zbb (z mk : Nat → Nat) (p : Nat) : Nat := zba z mk (ztf p)
theorem zbb_p {u j : Nat} (hz : ∀ u, u < 4 → z u ≤ 8) (hu : u < 4) (hj : j < z u) : zbb z mk (zbg z u + j) = mk u := by
  have h1 : zbg z (u + 1) = zbg z u + z u := rfl
  have h2 := zbg_4 hz (u + 1) (by omega)
  have e : ztf (zbg z u + j) = 3 + (zbg z u + j) := if_pos (by omega)
  unfold zbb
  rw [e]
  unfold zba
  rw [if_neg (by omega), show 3 + (zbg z u + j) - 3 = zbg z u + j by omega, zun_at hu hj]
theorem zbb_l {x : Nat} (h1 : 32 ≤ x) (h2 : x < 35) : zbb z mk x = 2 ^ (x - 32) := by
  have e : ztf x = x - 32 := if_neg (by omega)
  unfold zbb
  rw [e]
  unfold zba
  rw [if_pos (by omega)]
theorem l_mo_nEj {Q : x_Q} {w : Int} {G1 : Nat → Nat → Int} {u : Nat} {o4 o5 : Option (Nat × Int)} (hL : x_SL L) (hB1 : mBd lo hi mk G1) (hz1 : mFL z G1) (hb1 : mBg z G1) (hU1 : mLd g G1) (hu : u < 4)
    (cont : ∀ (G : Nat → Nat → Int), mCn (fun q => q < zbg z (u + 1)) (zbb z mk) g G → FM [147] [] G1 G → x_Fin xFL G → ∀ o3, X mX12_waysNow 2 0 0 Q 243 [some (vR 127), some (vI w), some (vI ((u : Int) + 1)), o3, o4, o5] [] L G 0 0) :
    ∀ (r j : Nat) (G : Nat → Nat → Int), j + r = z u → mCn (fun q => q < zbg z u + j) (zbb z mk) g G → FM [147] [] G1 G → x_Fin xFL G →
    X mX12_waysNow 2 0 0 Q 250 [some (vR 127), some (vI w), some (vI u), some (vI j), o4, o5] [] L G 0 0 := by
  obtain ⟨_, _, b3, _, _, b6⟩ := hB1 u hu
  have hzz := fun u hu => (hz1 u hu).2
  have hbs : zbg z (u + 1) = zbg z u + z u := rfl
  have hbb := zbg_4 hzz (u + 1) (by omega)
  intro r
  induction r with
  | zero =>
    intro j G hj hC hQ hF
    have hj : j = z u := by omega
    subst hj
    obtain ⟨z1, z2⟩ := hz1.FM hQ (by decide) u hu
    refine x_iloadn (pc := 250) dX12_waysNow_250 rfl ?_
    refine x_aloadn (pc := 251) dX12_waysNow_251 rfl ?_
    refine x_getR (144) (pc := 252) dX12_waysNow_252 fl_X12_58 k_127 (hL 127 (by decide) (by decide)) (f_127_20 hF) ?_
    refine x_iloadn (pc := 255) dX12_waysNow_255 rfl ?_
    refine x_iald (u) (pc := 256) dX12_waysNow_256 k_144 (hL 144 (by decide) (by decide)) (⟨by omega, by omega, by decide⟩) ?_
    refine x_cge (tgt := 292) (pc := 257) dX12_waysNow_257 (by decide) (by omega) (fun c_257 => ?_) (fun c_257 => ?_)
    rotate_left
    · skip
      exact absurd c_257 (by omega)
    refine x_iinc (pc := 292) dX12_waysNow_292 rfl (by decide) rfl ?_
    refine x_goto (tgt := 243) (pc := 295) dX12_waysNow_295 (by decide) ?_
    exact cont G hC hQ hF _
  | succ r ih =>
    intro j G hj hC hQ hF
    obtain ⟨z1, z2⟩ := hz1.FM hQ (by decide) u hu
    have hU := hU1.FM hQ (by decide)
    have hbg := hb1.FM hQ (by decide) u hu
    have hbp := zbb_p (mk := mk) hzz hu (show j < z u by omega)
    obtain ⟨_, _, _, g3, _, _⟩ := hU (zbg z u + j) (by omega)
    obtain ⟨c, c1, c2, c3⟩ := hC.step (p := zbg z u + j) (by omega) (by rw [hbp]; omega)
    rw [hbp] at c3
    have b3' : G 133 u = mk u := by rw [hQ.at 133 u (by decide) (fun w => absurd w (by decide))]; exact b3
    refine x_iloadn (pc := 250) dX12_waysNow_250 rfl ?_
    refine x_aloadn (pc := 251) dX12_waysNow_251 rfl ?_
    refine x_getR (144) (pc := 252) dX12_waysNow_252 fl_X12_58 k_127 (hL 127 (by decide) (by decide)) (f_127_20 hF) ?_
    refine x_iloadn (pc := 255) dX12_waysNow_255 rfl ?_
    refine x_iald (u) (pc := 256) dX12_waysNow_256 k_144 (hL 144 (by decide) (by decide)) (⟨by omega, by omega, by decide⟩) ?_
    refine x_cge (tgt := 292) (pc := 257) dX12_waysNow_257 (by decide) (by omega) (fun c_257 => ?_) (fun c_257 => ?_)
    · skip
      exact absurd c_257 (by omega)
    refine x_aloadn (pc := 260) dX12_waysNow_260 rfl ?_
    refine x_getR (147) (pc := 261) dX12_waysNow_261 fl_X12_67 k_127 (hL 127 (by decide) (by decide)) (f_127_24 hF) ?_
    refine x_aloadn (pc := 264) dX12_waysNow_264 rfl ?_
    refine x_aloadn (pc := 265) dX12_waysNow_265 rfl ?_
    refine x_getR (145) (pc := 266) dX12_waysNow_266 fl_X12_61 k_127 (hL 127 (by decide) (by decide)) (f_127_21 hF) ?_
    refine x_iloadn (pc := 269) dX12_waysNow_269 rfl ?_
    refine x_iald (u) (pc := 270) dX12_waysNow_270 k_145 (hL 145 (by decide) (by decide)) (⟨by omega, by omega, by decide⟩) ?_
    rw [hbg]
    refine x_iloadn (pc := 271) dX12_waysNow_271 rfl ?_
    refine x_iadd (pc := 272) dX12_waysNow_272 ?_
    refine x_cVI (pc := 273) dX12_waysNow_273 lk_X12_166 (c_mo_leadOf (x := zbg z u + j) hL hF hU (by omega)) k_127 ⟨by decide, rfl⟩ (hL 127 (by decide) (by decide)) (⟨by decide, by decide⟩) (Nat.le_of_ble_eq_true rfl) rfl ?_
    rintro v G2 ⟨rfl, rfl⟩
    refine x_dup2 (pc := 276) dX12_waysNow_276 (fun h => by cases h) (fun h => by cases h) ?_
    refine x_iald (g (zbg z u + j)) (pc := 277) dX12_waysNow_277 k_147 (hL 147 (by decide) (by decide)) (⟨by omega, by omega, by decide⟩) ?_
    rw [c1]
    refine x_aloadn (pc := 278) dX12_waysNow_278 rfl ?_
    refine x_getR (133) (pc := 279) dX12_waysNow_279 fl_X12_25 k_127 (hL 127 (by decide) (by decide)) (f_127_8 hF) ?_
    refine x_iloadn (pc := 282) dX12_waysNow_282 rfl ?_
    refine x_iald (u) (pc := 283) dX12_waysNow_283 k_133 (hL 133 (by decide) (by decide)) (⟨by omega, by omega, by decide⟩) ?_
    rw [b3']
    refine x_iandN (pc := 284) dX12_waysNow_284 c (mk u) rfl rfl ⟨by omega, by omega⟩ ?_
    refine x_iastF (g (zbg z u + j)) (pc := 285) dX12_waysNow_285 k_147 (hL 147 (by decide) (by decide)) (⟨by omega, by omega, by decide⟩) hF (fun hF => ?_)
    refine x_iinc (pc := 286) dX12_waysNow_286 rfl (by decide) rfl ?_
    refine x_goto (tgt := 250) (pc := 289) dX12_waysNow_289 (by decide) ?_
    exact ih (j + 1) _ (by omega) (c3.cg fun q => by omega) (hQ.upA (by decide)) hF
theorem l_mo_nE {Q : x_Q} {w : Int} {G1 : Nat → Nat → Int} {o4 o5 : Option (Nat × Int)} (hL : x_SL L) (hB1 : mBd lo hi mk G1) (hz1 : mFL z G1) (hb1 : mBg z G1) (hU1 : mLd g G1)
    (cont : ∀ (G : Nat → Nat → Int), mCn (fun q => q < zbg z 4) (zbb z mk) g G → FM [147] [] G1 G → x_Fin xFL G → ∀ o3, X mX12_waysNow 2 0 0 Q 298 [some (vR 127), some (vI w), some (vI 4), o3, o4, o5] [] L G 0 0) :
    ∀ (r u : Nat) (G : Nat → Nat → Int) (o3 : Option (Nat × Int)), u + r = 4 → mCn (fun q => q < zbg z u) (zbb z mk) g G → FM [147] [] G1 G → x_Fin xFL G →
    X mX12_waysNow 2 0 0 Q 243 [some (vR 127), some (vI w), some (vI u), o3, o4, o5] [] L G 0 0 := by
  intro r
  induction r with
  | zero =>
    intro u G o3 hu hC hQ hF
    have hu : u = 4 := by omega
    subst hu
    refine x_iloadn (pc := 243) dX12_waysNow_243 rfl ?_
    refine x_iconst (pc := 244) dX12_waysNow_244 ?_
    refine x_cge (tgt := 298) (pc := 245) dX12_waysNow_245 (by decide) (by omega) (fun c_245 => ?_) (fun c_245 => ?_)
    rotate_left
    · skip
      exact absurd c_245 (by decide)
    exact cont G hC hQ hF _
  | succ r ih =>
    intro u G o3 hu hC hQ hF
    refine x_iloadn (pc := 243) dX12_waysNow_243 rfl ?_
    refine x_iconst (pc := 244) dX12_waysNow_244 ?_
    refine x_cge (tgt := 298) (pc := 245) dX12_waysNow_245 (by decide) (by omega) (fun c_245 => ?_) (fun c_245 => ?_)
    · skip
      exact absurd c_245 (by omega)
    refine x_iconst (pc := 248) dX12_waysNow_248 ?_
    refine x_istoren (pc := 249) dX12_waysNow_249 rfl (by decide) rfl ?_
    exact l_mo_nEj hL hB1 hz1 hb1 hU1 (by omega) (fun G a1 a2 a3 o3 => ih (u + 1) G o3 (by omega) a1 a2 a3) (z u) 0 G (Nat.zero_add _) hC hQ hF
theorem l_mo_nF {Q : x_Q} {w : Int} {N : Nat} {bb : Nat → Nat} {G1 : Nat → Nat → Int} {o4 o5 : Option (Nat × Int)} (hL : x_SL L) (hU1 : mLd g G1) (hbb : ∀ x, 32 ≤ x → x < 35 → bb x = 2 ^ (x - 32))
    (cont : ∀ (G : Nat → Nat → Int), mCn (fun q => q < N ∨ (32 ≤ q ∧ q < 35)) bb g G → FM [147] [] G1 G → x_Fin xFL G → ∀ o3, X mX12_waysNow 2 0 0 Q 334 [some (vR 127), some (vI w), some (vI 35), o3, o4, o5] [] L G 0 0) :
    ∀ (r x : Nat) (G : Nat → Nat → Int) (o3 : Option (Nat × Int)), x + r = 35 → 32 ≤ x → mCn (fun q => q < N ∨ (32 ≤ q ∧ q < x)) bb g G → FM [147] [] G1 G → x_Fin xFL G →
    X mX12_waysNow 2 0 0 Q 301 [some (vR 127), some (vI w), some (vI x), o3, o4, o5] [] L G 0 0 := by
  intro r
  induction r with
  | zero =>
    intro x G o3 hx h32 hC hQ hF
    have hx : x = 35 := by omega
    subst hx
    refine x_iloadn (pc := 301) dX12_waysNow_301 rfl ?_
    refine x_bipush (pc := 302) dX12_waysNow_302 (by decide) ?_
    refine x_cge (tgt := 334) (pc := 304) dX12_waysNow_304 (by decide) (by omega) (fun c_304 => ?_) (fun c_304 => ?_)
    rotate_left
    · skip
      exact absurd c_304 (by decide)
    exact cont G hC hQ hF _
  | succ r ih =>
    intro x G o3 hx h32 hC hQ hF
    have hU := hU1.FM hQ (by decide)
    have hbp := hbb x h32 (by omega)
    have hlt : 2 ^ (x - 32) < 8 := by rcases (show x = 32 ∨ x = 33 ∨ x = 34 by omega) with rfl | rfl | rfl <;> decide
    obtain ⟨_, _, _, g3, _, _⟩ := hU x (by omega)
    obtain ⟨c, c1, c2, c3⟩ := hC.step (p := x) (by omega) (by rw [hbp]; omega)
    rw [hbp] at c3
    refine x_iloadn (pc := 301) dX12_waysNow_301 rfl ?_
    refine x_bipush (pc := 302) dX12_waysNow_302 (by decide) ?_
    refine x_cge (tgt := 334) (pc := 304) dX12_waysNow_304 (by decide) (by omega) (fun c_304 => ?_) (fun c_304 => ?_)
    · skip
      exact absurd c_304 (by omega)
    refine x_aloadn (pc := 307) dX12_waysNow_307 rfl ?_
    refine x_iloadn (pc := 308) dX12_waysNow_308 rfl ?_
    refine x_cVI (pc := 309) dX12_waysNow_309 lk_X12_166 (c_mo_leadOf (x := x) hL hF hU (by omega)) k_127 ⟨by decide, rfl⟩ (hL 127 (by decide) (by decide)) (⟨by decide, by decide⟩) (Nat.le_of_ble_eq_true rfl) rfl ?_
    rintro v G2 ⟨rfl, rfl⟩
    refine x_istoren (pc := 312) dX12_waysNow_312 rfl (by decide) rfl ?_
    refine x_aloadn (pc := 313) dX12_waysNow_313 rfl ?_
    refine x_getR (147) (pc := 314) dX12_waysNow_314 fl_X12_67 k_127 (hL 127 (by decide) (by decide)) (f_127_24 hF) ?_
    refine x_iloadn (pc := 317) dX12_waysNow_317 rfl ?_
    refine x_dup2 (pc := 318) dX12_waysNow_318 (fun h => by cases h) (fun h => by cases h) ?_
    refine x_iald (g x) (pc := 319) dX12_waysNow_319 k_147 (hL 147 (by decide) (by decide)) (⟨by omega, by omega, by decide⟩) ?_
    rw [c1]
    refine x_iconst (pc := 320) dX12_waysNow_320 ?_
    refine x_iloadn (pc := 321) dX12_waysNow_321 rfl ?_
    refine x_bipush (pc := 322) dX12_waysNow_322 (by decide) ?_
    refine x_isub (pc := 324) dX12_waysNow_324 ?_
    refine x_ishl (pc := 325) dX12_waysNow_325 (x - 32) (by omega) (by omega) ?_
    refine x_iandN (pc := 326) dX12_waysNow_326 c (2 ^ (x - 32)) rfl (by simp) ⟨by omega, by omega⟩ ?_
    refine x_iastF (g x) (pc := 327) dX12_waysNow_327 k_147 (hL 147 (by decide) (by decide)) (⟨by omega, by omega, by decide⟩) hF (fun hF => ?_)
    refine x_iinc (pc := 328) dX12_waysNow_328 rfl (by decide) rfl ?_
    refine x_goto (tgt := 301) (pc := 331) dX12_waysNow_331 (by decide) ?_
    exact ih (x + 1) _ _ (by omega) (by omega) (c3.cg fun q => by omega) (hQ.upA (by decide)) hF
end XMY

