/-! the reference's waysNow: the product -/
theorem zpop_i {a : Nat} (h : a < 8) : ((a : Nat) : Int) % 2 + ((a : Nat) : Int) / 2 ^ 1 % 2 + ((a : Nat) : Int) / 2 ^ 2 % 2 = ((zpop a : Nat) : Int) := by
  have hd : ∀ a, a < 8 → zpop a = a % 2 + a / 2 % 2 + a / 4 % 2 := by decide
  have := hd a h
  rw [this]; omega
theorem zmin_m (P v M : Nat) : min (min P M * v) M = min (P * v) M := by
  by_cases c : P ≤ M
  · rw [Nat.min_eq_left c]
  · rw [Nat.min_eq_right (by omega : M ≤ P)]
    rcases Nat.eq_zero_or_pos v with e | e
    · subst e; rfl
    · have h1 : M * 1 ≤ M * v := Nat.mul_le_mul_left M e
      have h2 : M * v ≤ P * v := Nat.mul_le_mul_right v (by omega)
      omega
section XMZ
variable {m : Nat} {S : Nat → Nat} {I : Nat → Nat → Nat} {lo hi mk z g : Nat → Nat} {L : List Nat}
theorem mCn.fin {G : Nat → Nat → Int} (hV : zEV m S I) (hl : zLn m S I z) (hz : ∀ u, u < 4 → z u ≤ 8) (h : mCn (fun q => q < zbg z 4 ∨ (32 ≤ q ∧ q < 35)) (zbb z mk) (zg m S I z) G) {x : Nat} (hx : x < zbg z 4) (hg : zg m S I z x = x) : G 147 x = ((zar m S I z mk x : Nat) : Int) := by
  have h35 := zE35 hV hl hz
  have hN := zbg_4 hz 4 (Nat.le_refl _)
  obtain ⟨c, c1, c2, c3⟩ := h x (by omega)
  have ex : ztf x = 3 + x := by unfold ztf; rw [if_pos (by omega)]
  have z7 : ∀ d, d < 3 → zbt 7 d = 1 := by decide
  have e : c = zan (zE m S I z) (zba z mk) (ztf x) := zan_un c2 (fun d hd => by
    rw [c3 d hd, show zin x = 7 from if_pos (by omega)]
    constructor
    · rintro ⟨_, w⟩ j hj
      have hjl : j < 3 + zbg z 4 := by
        by_cases q : ztf x = j
        · omega
        · exact (zQ_in (fun i j e => zE_lt hV hl e) hj q).2
      have hr : zrf j < zbg z 4 ∨ (32 ≤ zrf j ∧ zrf j < 35) := by unfold zrf; split <;> omega
      have h3 := (zQr h35 (show x < 35 by omega) (show zrf j < 35 by omega)).mpr (by rw [ztf_rf (by omega)]; exact hj)
      have h4 := ((zgm_mn (zEr (zE m S I z))).iff x (zrf j)).mp h3
      have h5 := w (zrf j) hr (h4.symm.trans hg)
      unfold zbb at h5
      rw [ztf_rf (by omega)] at h5; exact h5
    · intro w
      refine ⟨z7 d hd, fun p hp hgp => ?_⟩
      have hp35 : p < 35 := by omega
      have h3 := ((zgm_mn (zEr (zE m S I z))).iff x p).mpr (hg.trans hgp.symm)
      exact w _ ((zQr h35 (by omega) hp35).mp h3))
  rw [c1, e]; rfl
theorem l_mo_nG {Q : x_Q} {w : Int} {N : Nat} {a : Nat → Nat} {G : Nat → Nat → Int} (hL : x_SL L) (hF : x_Fin xFL G) (hN : N ≤ 32) (hp : G 127 22 = (N : Int)) (hU : mLd g G) (hc : ∀ x, x < N → g x = x → G 147 x = ((a x : Nat) : Int) ∧ a x < 8)
    (cont : ∀ o5, X mX12_waysNow 2 0 0 Q 425 [some (vR 127), some (vI w), some (vL ((min (zpw g a N) 1000000001 : Nat) : Int)), none, some (vI N), o5] [] L G 0 0) :
    ∀ (r x : Nat) (o5 : Option (Nat × Int)), x + r = N → X mX12_waysNow 2 0 0 Q 339 [some (vR 127), some (vI w), some (vL ((min (zpw g a x) 1000000001 : Nat) : Int)), none, some (vI x), o5] [] L G 0 0 := by
  intro r
  induction r with
  | zero =>
    intro x o5 hx
    have hx : x = N := by omega
    subst hx
    refine x_iload (pc := 339) dX12_waysNow_339 rfl ?_
    refine x_aloadn (pc := 341) dX12_waysNow_341 rfl ?_
    refine x_getI (pc := 342) dX12_waysNow_342 fl_X12_172 k_127 (hL 127 (by decide) (by decide)) ?_
    refine x_cge (tgt := 425) (pc := 345) dX12_waysNow_345 (by decide) (by omega) (fun c_345 => ?_) (fun c_345 => ?_)
    rotate_left
    · skip
      exact absurd c_345 (by omega)
    exact cont _
  | succ r ih =>
    intro x o5 hx
    obtain ⟨p, p1, p2, p3, p4, p5, p6⟩ := hU x (by omega)
    have hst : zpw g a (x + 1) = zpw g a x * (if g x = x then zpop (a x) else 1) := rfl
    have hm := zmin_m (zpw g a x) (if g x = x then zpop (a x) else 1) 1000000001
    rw [← hst] at hm
    have hcx := hc x (by omega)
    obtain ⟨A, hA⟩ : ∃ A, A = min (zpw g a x) 1000000001 := ⟨_, rfl⟩
    have hA2 : A ≤ 1000000001 := by omega
    rw [← hA] at hm
    have ih2 := fun o => ih (x + 1) o (by omega)
    rw [← hA]
    by_cases cg : g x = x
    · obtain ⟨k1, k2⟩ := hcx cg
      have hpo := zpop_i k2
      have h3 := zpop_3 _ k2
      rw [if_pos cg] at hm
      obtain ⟨v, hv⟩ : ∃ v, v = zpop (a x) := ⟨_, rfl⟩
      rw [← hv] at hm hpo h3
      obtain ⟨T, hT⟩ : ∃ T, T = A * v := ⟨_, rfl⟩
      have hT2 : T ≤ 1000000001 * 3 := by rw [hT]; exact Nat.mul_le_mul hA2 h3
      have hTi : ((A : Nat) : Int) * ((v : Nat) : Int) = ((T : Nat) : Int) := by rw [hT]; exact (Int.natCast_mul A v).symm
      rw [← hT] at hm
      refine x_iload (pc := 339) dX12_waysNow_339 rfl ?_
      refine x_aloadn (pc := 341) dX12_waysNow_341 rfl ?_
      refine x_getI (pc := 342) dX12_waysNow_342 fl_X12_172 k_127 (hL 127 (by decide) (by decide)) ?_
      refine x_cge (tgt := 425) (pc := 345) dX12_waysNow_345 (by decide) (by omega) (fun c_345 => ?_) (fun c_345 => ?_)
      · skip
        exact absurd c_345 (by omega)
      refine x_aloadn (pc := 348) dX12_waysNow_348 rfl ?_
      refine x_getR (146) (pc := 349) dX12_waysNow_349 fl_X12_64 k_127 (hL 127 (by decide) (by decide)) (f_127_23 hF) ?_
      refine x_iload (pc := 352) dX12_waysNow_352 rfl ?_
      refine x_iald (x) (pc := 354) dX12_waysNow_354 k_146 (hL 146 (by decide) (by decide)) (⟨by omega, by omega, by decide⟩) ?_
      rw [p1]
      refine x_iload (pc := 355) dX12_waysNow_355 rfl ?_
      refine x_cne (tgt := 419) (pc := 357) dX12_waysNow_357 (by decide) (by omega) (fun c_357 => ?_) (fun c_357 => ?_)
      · skip
        exact absurd (by rw [p5.mpr cg]) c_357
      refine x_aloadn (pc := 360) dX12_waysNow_360 rfl ?_
      refine x_getR (147) (pc := 361) dX12_waysNow_361 fl_X12_67 k_127 (hL 127 (by decide) (by decide)) (f_127_24 hF) ?_
      refine x_iload (pc := 364) dX12_waysNow_364 rfl ?_
      refine x_iald (x) (pc := 366) dX12_waysNow_366 k_147 (hL 147 (by decide) (by decide)) (⟨by omega, by omega, by decide⟩) ?_
      rw [k1]
      refine x_iconst (pc := 367) dX12_waysNow_367 ?_
      refine x_iandm (pc := 368) dX12_waysNow_368 1 2 (by decide) (by decide) (by decide) ?_
      refine x_aloadn (pc := 369) dX12_waysNow_369 rfl ?_
      refine x_getR (147) (pc := 370) dX12_waysNow_370 fl_X12_67 k_127 (hL 127 (by decide) (by decide)) (f_127_24 hF) ?_
      refine x_iload (pc := 373) dX12_waysNow_373 rfl ?_
      refine x_iald _ (pc := 375) dX12_waysNow_375 k_147 (hL 147 (by decide) (by decide)) (⟨rfl, by omega, by decide⟩) ?_
      refine x_iconst (pc := 376) dX12_waysNow_376 ?_
      refine x_ishr (pc := 377) dX12_waysNow_377 1 (by decide) (by decide) (by omega) ?_
      rw [k1]
      refine x_iconst (pc := 378) dX12_waysNow_378 ?_
      refine x_iandm (pc := 379) dX12_waysNow_379 1 2 (by decide) (by decide) (by decide) ?_
      refine x_iadd (pc := 380) dX12_waysNow_380 ?_
      refine x_aloadn (pc := 381) dX12_waysNow_381 rfl ?_
      refine x_getR (147) (pc := 382) dX12_waysNow_382 fl_X12_67 k_127 (hL 127 (by decide) (by decide)) (f_127_24 hF) ?_
      refine x_iload (pc := 385) dX12_waysNow_385 rfl ?_
      refine x_iald (x) (pc := 387) dX12_waysNow_387 k_147 (hL 147 (by decide) (by decide)) (⟨by omega, by omega, by decide⟩) ?_
      rw [k1]
      refine x_iconst (pc := 388) dX12_waysNow_388 ?_
      refine x_ishr (pc := 389) dX12_waysNow_389 2 (by decide) (by decide) (by omega) ?_
      refine x_iconst (pc := 390) dX12_waysNow_390 ?_
      refine x_iandm (pc := 391) dX12_waysNow_391 1 2 (by decide) (by decide) (by decide) ?_
      refine x_iadd (pc := 392) dX12_waysNow_392 ?_
      rw [hpo]
      refine x_istore (pc := 393) dX12_waysNow_393 (by decide) rfl ?_
      refine x_lloadn (pc := 395) dX12_waysNow_395 rfl ?_
      refine x_iload (pc := 396) dX12_waysNow_396 rfl ?_
      refine x_i2l (pc := 398) dX12_waysNow_398 (by omega) ?_
      refine x_lmul (pc := 399) dX12_waysNow_399 ?_
      rw [hTi]
      refine x_ldc2 (pc := 400) dX12_waysNow_400 co_X12_186 ?_
      refine x_lcmp (pc := 403) dX12_waysNow_403 (by omega) ?_
      refine x_ile (tgt := 413) (pc := 404) dX12_waysNow_404 (by decide) (zl_rg) (fun c_404 => ?_) (fun c_404 => ?_)
      · skip
        have c_404 := zl_le c_404
        refine x_lloadn (pc := 413) dX12_waysNow_413 rfl ?_
        refine x_iload (pc := 414) dX12_waysNow_414 rfl ?_
        refine x_i2l (pc := 416) dX12_waysNow_416 (by omega) ?_
        refine x_lmul (pc := 417) dX12_waysNow_417 ?_
        rw [hTi]
        refine x_lstoren (pc := 418) dX12_waysNow_418 rfl (by decide) rfl ?_
        refine x_iinc (pc := 419) dX12_waysNow_419 rfl (by decide) rfl ?_
        refine x_goto (tgt := 339) (pc := 422) dX12_waysNow_422 (by decide) ?_
        have e := ih2 (some (vI v))
        rw [← hm] at e
        first
        | (rw [show min T 1000000001 = 1000000001 by omega] at e; exact e)
        | (rw [show min T 1000000001 = T by omega] at e; exact e)
      · skip
        have c_404 := zl_g c_404
        refine x_ldc2 (pc := 407) dX12_waysNow_407 co_X12_186 ?_
        refine x_goto (tgt := 418) (pc := 410) dX12_waysNow_410 (by decide) ?_
        refine x_lstoren (pc := 418) dX12_waysNow_418 rfl (by decide) rfl ?_
        refine x_iinc (pc := 419) dX12_waysNow_419 rfl (by decide) rfl ?_
        refine x_goto (tgt := 339) (pc := 422) dX12_waysNow_422 (by decide) ?_
        have e := ih2 (some (vI v))
        rw [← hm] at e
        first
        | (rw [show min T 1000000001 = 1000000001 by omega] at e; exact e)
        | (rw [show min T 1000000001 = T by omega] at e; exact e)
    · rw [if_neg cg, Nat.mul_one] at hm
      refine x_iload (pc := 339) dX12_waysNow_339 rfl ?_
      refine x_aloadn (pc := 341) dX12_waysNow_341 rfl ?_
      refine x_getI (pc := 342) dX12_waysNow_342 fl_X12_172 k_127 (hL 127 (by decide) (by decide)) ?_
      refine x_cge (tgt := 425) (pc := 345) dX12_waysNow_345 (by decide) (by omega) (fun c_345 => ?_) (fun c_345 => ?_)
      · skip
        exact absurd c_345 (by omega)
      refine x_aloadn (pc := 348) dX12_waysNow_348 rfl ?_
      refine x_getR (146) (pc := 349) dX12_waysNow_349 fl_X12_64 k_127 (hL 127 (by decide) (by decide)) (f_127_23 hF) ?_
      refine x_iload (pc := 352) dX12_waysNow_352 rfl ?_
      refine x_iald (x) (pc := 354) dX12_waysNow_354 k_146 (hL 146 (by decide) (by decide)) (⟨by omega, by omega, by decide⟩) ?_
      rw [p1]
      refine x_iload (pc := 355) dX12_waysNow_355 rfl ?_
      refine x_cne (tgt := 419) (pc := 357) dX12_waysNow_357 (by decide) (by omega) (fun c_357 => ?_) (fun c_357 => ?_)
      rotate_left
      · skip
        exact absurd (p5.mp (by omega)) cg
      refine x_iinc (pc := 419) dX12_waysNow_419 rfl (by decide) rfl ?_
      refine x_goto (tgt := 339) (pc := 422) dX12_waysNow_422 (by decide) ?_
      have e := ih2 o5
      rw [← hm, show min A 1000000001 = A by omega] at e
      exact e
end XMZ

