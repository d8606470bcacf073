/-! the reference: all equations met, edge by edge -/
def mGa (s0 : zSt) (e : Nat) (G : Nat → Nat → Int) : Prop := mGm (zN s0 e) G ∧ (zN s0 e).length ≤ 1500 ∧ ∀ e', e' < e → G 151 e' = ztg s0 e' ∧ G 152 e' = zfe s0 e'
def zBd0 (s0 : zSt) (k : Nat) : Prop := (zN s0 6000)[k]? = some ([], [])
def mGf (s0 : zSt) (G : Nat → Nat → Int) : Prop := mGm (zN s0 6000) G ∧ (∀ e, e < 4 * (zN s0 6000).length → G 151 e = ztg s0 e ∧ G 152 e = zfe s0 e) ∧ ∀ k, k < (zN s0 6000).length → zDi (zN s0 6000).length (ztg s0) (zBd0 s0) (G 153 k) k ∧ -1 ≤ G 153 k ∧ G 153 k < 2000
abbrev z_cS : List Nat := [148, 149, 150, 151, 152, 153, 154, 155, 156]
abbrev z_cF : List Nat := [33, 34, 37, 38, 39, 40]
abbrev pCh (L : List Nat) (G0 : Nat → Nat → Int) (s0 : zSt) (f : Int) : x_Q := qI L fun x G' => ((x = -6 ∧ 1500 < (zN s0 6000).length) ∨ (x = 0 ∧ (zN s0 6000).length ≤ 1500 ∧ mGf s0 G' ∧ G' 127 34 = f)) ∧ FM z_cS z_cF G0 G' ∧ x_Fin xFL G'
section XCM
variable {L : List Nat} {s0 s : zSt}
theorem mNo_bd {ns : List zSt} {x : Int} {G0 G' : Nat → Nat → Int} (h : mNo ns s G0 G' x) (hn : ns.length ≤ 1500) : -1 ≤ x ∧ x < 2147483648 := by
  rcases h with ⟨h1, h2, _⟩ | ⟨_, _, h2, _⟩ | ⟨_, _, h2, _⟩
  · have := zix_lt h1; omega
  · omega
  · omega
theorem mex_step {e : Nat} {x : Int} {G4 G5 : Nat → Nat → Int} (hs : (zN s0 e)[e / 4]? = some s) (hk : e % 4 < zqn (zhd s.1) (zhd s.2)) (a1 : mGm (zN s0 e) G4) (a2 : (zN s0 e).length ≤ 1500) (a4 : ∀ e', e' < e → G4 151 e' = ztg s0 e' ∧ G4 152 e' = zfe s0 e') (a6 : G4 152 e = zfe s0 e) (h : mNo (zN s0 e) (znx s (e % 4)) G4 G5 x) : (x ≠ -1 ∧ mGa s0 (e + 1) (x_up G5 151 e x)) ∨ (x = -1 ∧ 1500 < (zN s0 (e + 1)).length) := by
  have hT := (ztg_on hs hk).1
  have up : FM [151] [] G5 (x_up G5 151 e x) := FM.rf.upA (by decide)
  rcases h with ⟨h1, h2, h3⟩ | ⟨h1, h2, h3, h4⟩ | ⟨h1, h2, h3, h4, h5⟩
  · have hz : zN s0 (e + 1) = zN s0 e := by rw [zN, zap_old hs h1]
    rw [hz] at hT
    subst h3
    refine Or.inl ⟨by omega, by rw [hz]; exact a1.FM up (by decide) (by decide) (by decide) (by decide) (by decide) (by decide), by rw [hz]; exact a2, fun e' he => ?_⟩
    rw [x_up_ne (show 152 ≠ 151 by decide)]
    by_cases c : e' = e
    · rw [c, x_up_s, hT, h2]; exact ⟨rfl, a6⟩
    · rw [x_up_k c]; exact a4 e' (by omega)
  · refine Or.inr ⟨h3, ?_⟩
    rw [zN, zap_new hs hk h1, List.length_append, List.length_singleton]; omega
  · have hz : zN s0 (e + 1) = zN s0 e ++ [znx s (e % 4)] := by rw [zN, zap_new hs hk h1]
    have hl : (zN s0 (e + 1)).length = (zN s0 e).length + 1 := by rw [hz, List.length_append]; rfl
    rw [hz, zix_new _ _ h1] at hT
    refine Or.inl ⟨by omega, by rw [hz]; exact h4.FM up (by decide) (by decide) (by decide) (by decide) (by decide) (by decide), by omega, fun e' he => ?_⟩
    rw [x_up_ne (show 152 ≠ 151 by decide), h5 152 _ (by decide) (fun w => absurd w (by decide))]
    by_cases c : e' = e
    · rw [c, x_up_s, hT, h3]; exact ⟨rfl, a6⟩
    · rw [x_up_k c, h5 151 _ (by decide) (fun w => absurd w (by decide))]; exact a4 e' (by omega)
/-- a putting laid, what it frees, its number -/
theorem l_mo_chM {Q : x_Q} {e0 b2 : Int} {k j e u g : Nat} {p : Int} {o5 : Option (Nat × Int)} {G : Nat → Nat → Int} (hL : x_SL L) (hF : x_Fin xFL G) (h0 : zvS s0) (he4 : e = 4 * k + j) (hj : j < 4) (hs : (zN s0 e)[e / 4]? = some s) (hk : j < zqn (zhd s.1) (zhd s.2)) (a1 : mGm (zN s0 e) G) (a2 : (zN s0 e).length ≤ 1500) (a4 : ∀ e', e' < e → G 151 e' = ztg s0 e' ∧ G 152 e' = zfe s0 e') (hu : zpu (zhd s.1) (zhd s.2) j = ((u : Nat) : Int)) (hu4 : 4 ≤ u ∧ u < 8) (hp : p = zpi (zhd s.1) (zhd s.2) j) (hpn : p = -1 ∨ ∃ P : Nat, p = P ∧ P < 8 ∧ P ≠ 3) (f1 : G 127 39 = ((u : Nat) : Int)) (f2 : G 127 40 = p) (hg : (p = -1 ∧ g = 2 ^ (u - 4)) ∨ (p ≠ -1 ∧ g = 0))
    (contA : ∀ (G' : Nat → Nat → Int) (o5 : Option (Nat × Int)), mGa s0 (e + 1) G' → FM z_cS [33, 37, 38] G G' → x_Fin xFL G' → X mX12_chase 2 0 0 Q 419 [some (vR 127), some (vI e0), some (vI b2), some (vI k), some (vI j), o5] [] L G' 0 0)
    (contB : ∀ (G' : Nat → Nat → Int) (o5 : Option (Nat × Int)), 1500 < (zN s0 (e + 1)).length → FM z_cS [33, 37, 38] G G' → x_Fin xFL G' → X mX12_chase 2 0 0 Q 416 [some (vR 127), some (vI e0), some (vI b2), some (vI k), some (vI j), o5] [] L G' 0 0) :
    X mX12_chase 2 0 0 Q 343 [some (vR 127), some (vI e0), some (vI b2), some (vI k), some (vI j), o5] [vI ((g : Nat) : Int)] L G 0 0 := by
  have he : e % 4 = j := by omega
  have hek : e / 4 = k := by omega
  have hlt := (List.getElem?_eq_some_iff.mp hs).1
  have hsk : (zN s0 e)[k]? = some s := by rw [← hek]; exact hs
  have hv := zN_v h0 e s (List.mem_of_getElem? hs)
  have hl24 := hv.2.2.1
  have hvx : zvS (znx s j) := zvS_nx hv hk
  have hnx : znx s j = zsk (zpt u p s.1, zpt u p s.2) := by
    show zsk (zpt (zpu (zhd s.1) (zhd s.2) j) (zpi (zhd s.1) (zhd s.2) j) s.1, zpt (zpu (zhd s.1) (zhd s.2) j) (zpi (zhd s.1) (zhd s.2) j) s.2) = _
    rw [hu, ← hp]
  have hx24 := hvx.2.2.1
  have hN1 : znm s < 16 := znf_lt _ _ (fun x hx => (hv.b8.2 x hx).1) (znf_lt _ _ (fun x hx => (hv.b8.1 x hx).1) (by decide))
  have hN2 : znm (znx s j) < 16 := znf_lt _ _ (fun x hx => (hvx.b8.2 x hx).1) (znf_lt _ _ (fun x hx => (hvx.b8.1 x hx).1) (by decide))
  have hp3 : 2 ^ (u - 4) < 2 ^ 4 := Nat.pow_lt_pow_right (by decide) (by omega)
  have hg16 : g < 16 := by rcases hg with ⟨_, w⟩ | ⟨_, w⟩ <;> omega
  have f0 : zfe s0 e = if zfv s j = 0 then 0 else 1 := by rw [zfe_on hs (by rw [he]; exact hk), he]
  have fv : zfv s j = zan2 (zan2 (znm s) (znm (znx s j))) g := by
    unfold zfv
    rcases hg with ⟨w1, w2⟩ | ⟨w1, w2⟩
    · rw [if_pos (by rw [← hp]; exact w1), hu, Int.toNat_natCast, w2]
    · rw [if_neg (by rw [← hp]; exact w1), w2]
      show _ = zan2 (znm s) (znm (znx s j)) - (zan2 (znm s) (znm (znx s j)) &&& 0)
      rw [Nat.and_zero, Nat.sub_zero]
  have hei : 4 * ((k : Nat) : Int) + ((j : Nat) : Int) = ((e : Nat) : Int) := by omega
  have fin : ∀ (z : Int) (G4 G5 : Nat → Nat → Int) (x : Int) (o5 : Option (Nat × Int)), z = zfe s0 e → FM z_msS z_msF G G4 → mNo (zN s0 e) (znx s j) (x_up G4 152 e z) G5 x → x_Fin xFL (x_up G5 151 e x) → -1 ≤ x ∧ x < 2147483648 → X mX12_chase 2 0 0 Q 401 [some (vR 127), some (vI e0), some (vI b2), some (vI k), some (vI j), o5] [] L (x_up G5 151 e x) 0 0 := by
    intro z G4 G5 x o5 hz k3 k5 hF hxb
    have up : FM [152] [] G4 (x_up G4 152 e z) := FM.rf.upA (by decide)
    have st := mex_step (x := x) (G4 := x_up G4 152 e z) (G5 := G5) hs (by rw [he]; exact hk) ((a1.FM k3 (by decide) (by decide) (by decide) (by decide) (by decide) (by decide)).FM up (by decide) (by decide) (by decide) (by decide) (by decide) (by decide)) a2 (fun e' h' => by
      rw [x_up_ne (show 151 ≠ 152 by decide), x_up_k (by omega), k3 _ _ (by decide) (fun w => absurd w (by decide)), k3 _ _ (by decide) (fun w => absurd w (by decide))]; exact a4 e' h') (by rw [x_up_s]; exact hz) (by rw [he]; exact k5)
    have q5 : FM z_noS [33] (x_up G4 152 e z) G5 := by
      rcases k5 with ⟨_, _, w⟩ | ⟨_, _, _, w⟩ | ⟨_, _, _, _, w⟩
      · rw [w]; exact FM.rf
      · rw [w]; exact FM.rf
      · exact w
    have q6 : FM z_cS [33, 37, 38] G (x_up G5 151 e x) := ((((k3.mono (by decide) (by decide)).tr (up.mono (by decide) (by decide))).tr (q5.mono (by decide) (by decide)))).upA (by decide)
    rcases st with ⟨w1, w2⟩ | ⟨w1, w2⟩
    · skip
      refine x_aloadn (pc := 401) dX12_chase_401 rfl ?_
      refine x_getR (151) (pc := 402) dX12_chase_402 fl_X12_80 k_127 (hL 127 (by decide) (by decide)) (f_127_29 hF) ?_
      refine x_iconst (pc := 405) dX12_chase_405 ?_
      refine x_iloadn (pc := 406) dX12_chase_406 rfl ?_
      refine x_imul (pc := 407) dX12_chase_407 ?_
      refine x_iload (pc := 408) dX12_chase_408 rfl ?_
      refine x_iadd (pc := 410) dX12_chase_410 ?_
      rw [hei]
      refine x_iald (e) (pc := 411) dX12_chase_411 k_151 (hL 151 (by decide) (by decide)) (⟨by omega, by omega, by decide⟩) ?_
      rw [x_up_s]
      refine x_iconst (pc := 412) dX12_chase_412 ?_
      refine x_cne (tgt := 419) (pc := 413) dX12_chase_413 (by decide) (by omega) (fun c_413 => ?_) (fun c_413 => ?_)
      rotate_left
      · skip
        exact absurd (by omega) w1
      exact contA _ _ w2 q6 hF
    · skip
      refine x_aloadn (pc := 401) dX12_chase_401 rfl ?_
      refine x_getR (151) (pc := 402) dX12_chase_402 fl_X12_80 k_127 (hL 127 (by decide) (by decide)) (f_127_29 hF) ?_
      refine x_iconst (pc := 405) dX12_chase_405 ?_
      refine x_iloadn (pc := 406) dX12_chase_406 rfl ?_
      refine x_imul (pc := 407) dX12_chase_407 ?_
      refine x_iload (pc := 408) dX12_chase_408 rfl ?_
      refine x_iadd (pc := 410) dX12_chase_410 ?_
      rw [hei]
      refine x_iald (e) (pc := 411) dX12_chase_411 k_151 (hL 151 (by decide) (by decide)) (⟨by omega, by omega, by decide⟩) ?_
      rw [x_up_s]
      refine x_iconst (pc := 412) dX12_chase_412 ?_
      refine x_cne (tgt := 419) (pc := 413) dX12_chase_413 (by decide) (by omega) (fun c_413 => ?_) (fun c_413 => ?_)
      · skip
        exact absurd w1 c_413
      exact contB _ _ w2 q6 hF
  refine x_istore (pc := 343) dX12_chase_343 (by decide) rfl ?_
  refine x_aloadn (pc := 345) dX12_chase_345 rfl ?_
  refine x_iloadn (pc := 346) dX12_chase_346 rfl ?_
  refine x_cVV (pc := 347) dX12_chase_347 lk_X12_264 (c_mo_layPut (u := u) (p := p) hL hF a1.2.1 hsk (by omega) hv hu4 hpn f1 f2) k_127 ⟨by decide, rfl⟩ (hL 127 (by decide) (by decide)) (⟨by decide, by decide⟩) (Nat.le_of_ble_eq_true rfl) rfl ?_
  rintro G4 ⟨k1, k2, hF⟩
  rw [← hnx] at k1
  refine x_aloadn (pc := 350) dX12_chase_350 rfl ?_
  refine x_getR (152) (pc := 351) dX12_chase_351 fl_X12_83 k_127 (hL 127 (by decide) (by decide)) (f_127_30 hF) ?_
  refine x_iconst (pc := 354) dX12_chase_354 ?_
  refine x_iloadn (pc := 355) dX12_chase_355 rfl ?_
  refine x_imul (pc := 356) dX12_chase_356 ?_
  refine x_iload (pc := 357) dX12_chase_357 rfl ?_
  refine x_iadd (pc := 359) dX12_chase_359 ?_
  rw [hei]
  refine x_aloadn (pc := 360) dX12_chase_360 rfl ?_
  refine x_iloadn (pc := 361) dX12_chase_361 rfl ?_
  refine x_cVI (pc := 362) dX12_chase_362 lk_X12_268 (c_mo_namesMet hL hF (a1.2.1.FM k2 (by decide) (by decide) (by decide)) hsk (by omega) hv) k_127 ⟨by decide, rfl⟩ (hL 127 (by decide) (by decide)) (⟨by decide, by decide⟩) (Nat.le_of_ble_eq_true rfl) rfl ?_
  rintro x G' ⟨rfl, h_G⟩
  obtain rfl := h_G.symm
  refine x_aloadn (pc := 365) dX12_chase_365 rfl ?_
  refine x_cVI (pc := 366) dX12_chase_366 lk_X12_250 (c_mo_namesNow hL hF k1 hvx.b8.1 hvx.b8.2 (by omega)) k_127 ⟨by decide, rfl⟩ (hL 127 (by decide) (by decide)) (⟨by decide, by decide⟩) (Nat.le_of_ble_eq_true rfl) rfl ?_
  rintro x G' ⟨rfl, h_G⟩
  obtain rfl := h_G.symm
  rw [show znm ((znx s j).1, (znx s j).2) = znm (znx s j) from rfl]
  refine x_iconst (pc := 369) dX12_chase_369 ?_
  refine x_not (pc := 370) dX12_chase_370 rfl ?_
  refine x_iandc (pc := 371) dX12_chase_371 (znm s) (znm (znx s j)) rfl rfl (by omega) ?_
  refine x_iload (pc := 372) dX12_chase_372 rfl ?_
  refine x_iconst (pc := 374) dX12_chase_374 ?_
  refine x_not (pc := 375) dX12_chase_375 rfl ?_
  refine x_iandc (pc := 376) dX12_chase_376 (znm s - (znm s &&& znm (znx s j))) g rfl rfl (by omega) ?_
  refine x_ieq (tgt := 384) (pc := 377) dX12_chase_377 (by decide) (by omega) (fun c_377 => ?_) (fun c_377 => ?_)
  · skip
    refine x_iconst (pc := 384) dX12_chase_384 ?_
    refine x_zastF (e) (pc := 385) dX12_chase_385 k_152 (hL 152 (by decide) (by decide)) (⟨by omega, by omega, by decide⟩) (by omega) hF (fun hF => ?_)
    refine x_aloadn (pc := 386) dX12_chase_386 rfl ?_
    refine x_getR (151) (pc := 387) dX12_chase_387 fl_X12_80 k_127 (hL 127 (by decide) (by decide)) (f_127_29 hF) ?_
    refine x_iconst (pc := 390) dX12_chase_390 ?_
    refine x_iloadn (pc := 391) dX12_chase_391 rfl ?_
    refine x_imul (pc := 392) dX12_chase_392 ?_
    refine x_iload (pc := 393) dX12_chase_393 rfl ?_
    refine x_iadd (pc := 395) dX12_chase_395 ?_
    rw [hei]
    refine x_aloadn (pc := 396) dX12_chase_396 rfl ?_
    first
    | (have hz0 : (0 : Int) = zfe s0 e := by rw [f0, fv, if_pos (show zan2 (zan2 (znm s) (znm (znx s j))) g = 0 by unfold zan2; omega)]
       refine x_cVI (pc := 397) dX12_chase_397 lk_X12_257 (c_mo_numberOf (ns := zN s0 e) (s := znx s j) (A := (znx s j).1) (B := (znx s j).2) hL hF rfl hvx (k1.FM (T := [152]) (F := []) (FM.rf.upA (by decide)) (by decide) (by decide) (by decide) (by decide) (by decide)) ((a1.FM k2 (by decide) (by decide) (by decide) (by decide) (by decide) (by decide)).FM (T := [152]) (F := []) (FM.rf.upA (by decide)) (by decide) (by decide) (by decide) (by decide) (by decide) (by decide)) a2 (zN_nd e) (zN_v h0 e)) k_127 ⟨by decide, rfl⟩ (hL 127 (by decide) (by decide)) (⟨by decide, by decide⟩) (Nat.le_of_ble_eq_true rfl) rfl ?_
       rintro x G5 ⟨k5, hF⟩
       refine x_iast (e) (pc := 400) dX12_chase_400 k_151 (hL 151 (by decide) (by decide)) (⟨by omega, by omega, by decide⟩) ?_
       exact fin 0 G4 G5 x _ hz0 k2 k5 (x_FinA hF k_151 (by decide)) (mNo_bd k5 a2))
    | (have hz0 : (1 : Int) = zfe s0 e := by rw [f0, fv, if_neg (show ¬ zan2 (zan2 (znm s) (znm (znx s j))) g = 0 by unfold zan2; omega)]
       refine x_cVI (pc := 397) dX12_chase_397 lk_X12_257 (c_mo_numberOf (ns := zN s0 e) (s := znx s j) (A := (znx s j).1) (B := (znx s j).2) hL hF rfl hvx (k1.FM (T := [152]) (F := []) (FM.rf.upA (by decide)) (by decide) (by decide) (by decide) (by decide) (by decide)) ((a1.FM k2 (by decide) (by decide) (by decide) (by decide) (by decide) (by decide)).FM (T := [152]) (F := []) (FM.rf.upA (by decide)) (by decide) (by decide) (by decide) (by decide) (by decide) (by decide)) a2 (zN_nd e) (zN_v h0 e)) k_127 ⟨by decide, rfl⟩ (hL 127 (by decide) (by decide)) (⟨by decide, by decide⟩) (Nat.le_of_ble_eq_true rfl) rfl ?_
       rintro x G5 ⟨k5, hF⟩
       refine x_iast (e) (pc := 400) dX12_chase_400 k_151 (hL 151 (by decide) (by decide)) (⟨by omega, by omega, by decide⟩) ?_
       exact fin 1 G4 G5 x _ hz0 k2 k5 (x_FinA hF k_151 (by decide)) (mNo_bd k5 a2))
  · skip
    refine x_iconst (pc := 380) dX12_chase_380 ?_
    refine x_goto (tgt := 385) (pc := 381) dX12_chase_381 (by decide) ?_
    refine x_zastF (e) (pc := 385) dX12_chase_385 k_152 (hL 152 (by decide) (by decide)) (⟨by omega, by omega, by decide⟩) (by omega) hF (fun hF => ?_)
    refine x_aloadn (pc := 386) dX12_chase_386 rfl ?_
    refine x_getR (151) (pc := 387) dX12_chase_387 fl_X12_80 k_127 (hL 127 (by decide) (by decide)) (f_127_29 hF) ?_
    refine x_iconst (pc := 390) dX12_chase_390 ?_
    refine x_iloadn (pc := 391) dX12_chase_391 rfl ?_
    refine x_imul (pc := 392) dX12_chase_392 ?_
    refine x_iload (pc := 393) dX12_chase_393 rfl ?_
    refine x_iadd (pc := 395) dX12_chase_395 ?_
    rw [hei]
    refine x_aloadn (pc := 396) dX12_chase_396 rfl ?_
    first
    | (have hz0 : (0 : Int) = zfe s0 e := by rw [f0, fv, if_pos (show zan2 (zan2 (znm s) (znm (znx s j))) g = 0 by unfold zan2; omega)]
       refine x_cVI (pc := 397) dX12_chase_397 lk_X12_257 (c_mo_numberOf (ns := zN s0 e) (s := znx s j) (A := (znx s j).1) (B := (znx s j).2) hL hF rfl hvx (k1.FM (T := [152]) (F := []) (FM.rf.upA (by decide)) (by decide) (by decide) (by decide) (by decide) (by decide)) ((a1.FM k2 (by decide) (by decide) (by decide) (by decide) (by decide) (by decide)).FM (T := [152]) (F := []) (FM.rf.upA (by decide)) (by decide) (by decide) (by decide) (by decide) (by decide) (by decide)) a2 (zN_nd e) (zN_v h0 e)) k_127 ⟨by decide, rfl⟩ (hL 127 (by decide) (by decide)) (⟨by decide, by decide⟩) (Nat.le_of_ble_eq_true rfl) rfl ?_
       rintro x G5 ⟨k5, hF⟩
       refine x_iast (e) (pc := 400) dX12_chase_400 k_151 (hL 151 (by decide) (by decide)) (⟨by omega, by omega, by decide⟩) ?_
       exact fin 0 G4 G5 x _ hz0 k2 k5 (x_FinA hF k_151 (by decide)) (mNo_bd k5 a2))
    | (have hz0 : (1 : Int) = zfe s0 e := by rw [f0, fv, if_neg (show ¬ zan2 (zan2 (znm s) (znm (znx s j))) g = 0 by unfold zan2; omega)]
       refine x_cVI (pc := 397) dX12_chase_397 lk_X12_257 (c_mo_numberOf (ns := zN s0 e) (s := znx s j) (A := (znx s j).1) (B := (znx s j).2) hL hF rfl hvx (k1.FM (T := [152]) (F := []) (FM.rf.upA (by decide)) (by decide) (by decide) (by decide) (by decide) (by decide)) ((a1.FM k2 (by decide) (by decide) (by decide) (by decide) (by decide) (by decide)).FM (T := [152]) (F := []) (FM.rf.upA (by decide)) (by decide) (by decide) (by decide) (by decide) (by decide) (by decide)) a2 (zN_nd e) (zN_v h0 e)) k_127 ⟨by decide, rfl⟩ (hL 127 (by decide) (by decide)) (⟨by decide, by decide⟩) (Nat.le_of_ble_eq_true rfl) rfl ?_
       rintro x G5 ⟨k5, hF⟩
       refine x_iast (e) (pc := 400) dX12_chase_400 k_151 (hL 151 (by decide) (by decide)) (⟨by omega, by omega, by decide⟩) ?_
       exact fin 1 G4 G5 x _ hz0 k2 k5 (x_FinA hF k_151 (by decide)) (mNo_bd k5 a2))
/-- the edges of a node -/
theorem l_mo_chJ {Q : x_Q} {e0 b2 : Int} {k : Nat} {G0 : Nat → Nat → Int} (hL : x_SL L) (h0 : zvS s0) (hs : (zN s0 (4 * k))[k]? = some s) (hk15 : k < 1500)
    (contA : ∀ (G : Nat → Nat → Int) (o5 : Option (Nat × Int)), mGa s0 (4 * k + 4) G → FM z_cS z_cF G0 G → G 127 34 = G0 127 34 → x_Fin xFL G → X mX12_chase 2 0 0 Q 425 [some (vR 127), some (vI e0), some (vI b2), some (vI k), some (vI 4), o5] [] L G 0 0)
    (contB : ∀ (G : Nat → Nat → Int) (j : Nat) (o5 : Option (Nat × Int)), j < 4 → 1500 < (zN s0 (4 * k + j + 1)).length → FM z_cS z_cF G0 G → x_Fin xFL G → X mX12_chase 2 0 0 Q 416 [some (vR 127), some (vI e0), some (vI b2), some (vI k), some (vI j), o5] [] L G 0 0) :
    ∀ (r j : Nat) (G : Nat → Nat → Int) (o5 : Option (Nat × Int)), j + r = 4 → mGa s0 (4 * k + j) G → FM z_cS z_cF G0 G → G 127 34 = G0 127 34 → x_Fin xFL G →
    X mX12_chase 2 0 0 Q 274 [some (vR 127), some (vI e0), some (vI b2), some (vI k), some (vI j), o5] [] L G 0 0 := by
  intro r
  induction r with
  | zero =>
    intro j G o5 hj ha hQ hbf hF
    have hj : j = 4 := by omega
    subst hj
    refine x_iload (pc := 274) dX12_chase_274 rfl ?_
    refine x_iconst (pc := 276) dX12_chase_276 ?_
    refine x_cge (tgt := 425) (pc := 277) dX12_chase_277 (by decide) (by omega) (fun c_277 => ?_) (fun c_277 => ?_)
    rotate_left
    · skip
      exact absurd c_277 (by decide)
    exact contA _ _ ha hQ hbf hF
  | succ r ih =>
    intro j G o5 hj ha hQ hbf hF
    have hei : 4 * ((k : Nat) : Int) + ((j : Nat) : Int) = ((4 * k + j : Nat) : Int) := by omega
    obtain ⟨e, he⟩ : ∃ e, e = 4 * k + j := ⟨_, rfl⟩
    have hs2 : (zN s0 e)[e / 4]? = some s := by rw [show e / 4 = k by omega]; exact zN_get (by omega) hs
    have hem : e % 4 = j := by omega
    have ihx := fun G o5 => ih (j + 1) G o5 (by omega)
    rw [show 4 * k + (j + 1) = e + 1 by omega] at ihx
    have cB := fun G o5 => contB G j o5 (by omega)
    rw [← he] at ha hei cB
    have hsk : (zN s0 e)[k]? = some s := by rw [← show e / 4 = k by omega]; exact hs2
    have hv := zN_v h0 e s (List.mem_of_getElem? hs2)
    have hl24 := hv.2.2.1
    obtain ⟨v1, v2⟩ := hv.b8
    obtain ⟨a1, a2, a3⟩ := ha
    obtain ⟨m1, m2, m3⟩ := a1.2.1 k s hsk
    have q : FM [151, 152] [] G (x_up (x_up G 151 e (-1)) 152 e 0) := (FM.rf.upA (by decide)).upA (by decide)
    have qt : ∀ e', e' < e → x_up (x_up G 151 e (-1)) 152 e 0 151 e' = ztg s0 e' ∧ x_up (x_up G 151 e (-1)) 152 e 0 152 e' = zfe s0 e' := fun e' h => ⟨by rw [x_up_ne (by decide), x_up_k (by omega)]; exact (a3 e' h).1, by rw [x_up_k (by omega), x_up_ne (by decide)]; exact (a3 e' h).2⟩
    have q1 : FM z_cS z_cF G0 (x_up (x_up G 151 e (-1)) 152 e 0) := hQ.tr (q.mono (by decide) (by decide))
    have b1 : (x_up (x_up G 151 e (-1)) 152 e 0) 127 34 = G0 127 34 := by rw [q _ _ (by decide) (fun _ => by decide)]; exact hbf
    have aa := a1.FM q (by decide) (by decide) (by decide) (by decide) (by decide) (by decide)
    have hma : (x_up (x_up G 151 e (-1)) 152 e 0) 150 k = ((s.1.length + s.2.length : Nat) : Int) := by rw [x_up_ne (by decide), x_up_ne (by decide)]; exact m2
    have hoff : ¬ j < zqn (zhd s.1) (zhd s.2) → ∀ G' : Nat → Nat → Int, FM [] [39, 40] (x_up (x_up G 151 e (-1)) 152 e 0) G' → mGa s0 (e + 1) G' := fun w G' k3 => by
      have hz : zN s0 (e + 1) = zN s0 e := by rw [zN, zap_off hs2 (by omega)]
      obtain ⟨t1, t2⟩ := ztg_off hs2 (show ¬ e % 4 < zqn (zhd s.1) (zhd s.2) by omega)
      refine ⟨by rw [hz]; exact aa.FM k3 (by decide) (by decide) (by decide) (by decide) (by decide) (by decide), by rw [hz]; exact a2, fun e' h' => ?_⟩
      rw [k3 151 _ (by decide) (fun w => absurd w (by decide)), k3 152 _ (by decide) (fun w => absurd w (by decide))]
      by_cases c : e' = e
      · rw [c, x_up_ne (by decide), x_up_s, x_up_s]; exact ⟨t1.symm, t2.symm⟩
      · exact qt e' (by omega)
    by_cases hz0 : s.1.length + s.2.length = 0
    · have hno : ¬ j < zqn (zhd s.1) (zhd s.2) := by
        rw [zhd_at, zhd_at, if_neg (by omega), if_neg (by omega)]
        unfold zqn
        rw [if_neg (by omega), if_pos (by omega)]; omega
      rw [hz0] at hma
      refine x_iload (pc := 274) dX12_chase_274 rfl ?_
      refine x_iconst (pc := 276) dX12_chase_276 ?_
      refine x_cge (tgt := 425) (pc := 277) dX12_chase_277 (by decide) (by omega) (fun c_277 => ?_) (fun c_277 => ?_)
      · skip
        exact absurd c_277 (by omega)
      refine x_aloadn (pc := 280) dX12_chase_280 rfl ?_
      refine x_getR (151) (pc := 281) dX12_chase_281 fl_X12_80 k_127 (hL 127 (by decide) (by decide)) (f_127_29 hF) ?_
      refine x_iconst (pc := 284) dX12_chase_284 ?_
      refine x_iloadn (pc := 285) dX12_chase_285 rfl ?_
      refine x_imul (pc := 286) dX12_chase_286 ?_
      refine x_iload (pc := 287) dX12_chase_287 rfl ?_
      refine x_iadd (pc := 289) dX12_chase_289 ?_
      rw [hei]
      refine x_iconst (pc := 290) dX12_chase_290 ?_
      refine x_iastF (e) (pc := 291) dX12_chase_291 k_151 (hL 151 (by decide) (by decide)) (⟨by omega, by omega, by decide⟩) hF (fun hF => ?_)
      refine x_aloadn (pc := 292) dX12_chase_292 rfl ?_
      refine x_getR (152) (pc := 293) dX12_chase_293 fl_X12_83 k_127 (hL 127 (by decide) (by decide)) (f_127_30 hF) ?_
      refine x_iconst (pc := 296) dX12_chase_296 ?_
      refine x_iloadn (pc := 297) dX12_chase_297 rfl ?_
      refine x_imul (pc := 298) dX12_chase_298 ?_
      refine x_iload (pc := 299) dX12_chase_299 rfl ?_
      refine x_iadd (pc := 301) dX12_chase_301 ?_
      rw [hei]
      refine x_iconst (pc := 302) dX12_chase_302 ?_
      refine x_zastF (e) (pc := 303) dX12_chase_303 k_152 (hL 152 (by decide) (by decide)) (⟨by omega, by omega, by decide⟩) (by omega) hF (fun hF => ?_)
      refine x_aloadn (pc := 304) dX12_chase_304 rfl ?_
      refine x_getR (150) (pc := 305) dX12_chase_305 fl_X12_77 k_127 (hL 127 (by decide) (by decide)) (f_127_28 hF) ?_
      refine x_iloadn (pc := 308) dX12_chase_308 rfl ?_
      refine x_iald (k) (pc := 309) dX12_chase_309 k_150 (hL 150 (by decide) (by decide)) (⟨by omega, by omega, by decide⟩) ?_
      rw [hma]
      refine x_ile (tgt := 419) (pc := 310) dX12_chase_310 (by decide) (by omega) (fun c_310 => ?_) (fun c_310 => ?_)
      rotate_left
      · skip
        exact absurd c_310 (by decide)
      refine x_iinc (pc := 419) dX12_chase_419 rfl (by decide) rfl ?_
      refine x_goto (tgt := 274) (pc := 422) dX12_chase_422 (by decide) ?_
      exact ihx _ _ (hoff hno _ FM.rf) q1 b1 hF
    · skip
      refine x_iload (pc := 274) dX12_chase_274 rfl ?_
      refine x_iconst (pc := 276) dX12_chase_276 ?_
      refine x_cge (tgt := 425) (pc := 277) dX12_chase_277 (by decide) (by omega) (fun c_277 => ?_) (fun c_277 => ?_)
      · skip
        exact absurd c_277 (by omega)
      refine x_aloadn (pc := 280) dX12_chase_280 rfl ?_
      refine x_getR (151) (pc := 281) dX12_chase_281 fl_X12_80 k_127 (hL 127 (by decide) (by decide)) (f_127_29 hF) ?_
      refine x_iconst (pc := 284) dX12_chase_284 ?_
      refine x_iloadn (pc := 285) dX12_chase_285 rfl ?_
      refine x_imul (pc := 286) dX12_chase_286 ?_
      refine x_iload (pc := 287) dX12_chase_287 rfl ?_
      refine x_iadd (pc := 289) dX12_chase_289 ?_
      rw [hei]
      refine x_iconst (pc := 290) dX12_chase_290 ?_
      refine x_iastF (e) (pc := 291) dX12_chase_291 k_151 (hL 151 (by decide) (by decide)) (⟨by omega, by omega, by decide⟩) hF (fun hF => ?_)
      refine x_aloadn (pc := 292) dX12_chase_292 rfl ?_
      refine x_getR (152) (pc := 293) dX12_chase_293 fl_X12_83 k_127 (hL 127 (by decide) (by decide)) (f_127_30 hF) ?_
      refine x_iconst (pc := 296) dX12_chase_296 ?_
      refine x_iloadn (pc := 297) dX12_chase_297 rfl ?_
      refine x_imul (pc := 298) dX12_chase_298 ?_
      refine x_iload (pc := 299) dX12_chase_299 rfl ?_
      refine x_iadd (pc := 301) dX12_chase_301 ?_
      rw [hei]
      refine x_iconst (pc := 302) dX12_chase_302 ?_
      refine x_zastF (e) (pc := 303) dX12_chase_303 k_152 (hL 152 (by decide) (by decide)) (⟨by omega, by omega, by decide⟩) (by omega) hF (fun hF => ?_)
      refine x_aloadn (pc := 304) dX12_chase_304 rfl ?_
      refine x_getR (150) (pc := 305) dX12_chase_305 fl_X12_77 k_127 (hL 127 (by decide) (by decide)) (f_127_28 hF) ?_
      refine x_iloadn (pc := 308) dX12_chase_308 rfl ?_
      refine x_iald (k) (pc := 309) dX12_chase_309 k_150 (hL 150 (by decide) (by decide)) (⟨by omega, by omega, by decide⟩) ?_
      rw [hma]
      refine x_ile (tgt := 419) (pc := 310) dX12_chase_310 (by decide) (by omega) (fun c_310 => ?_) (fun c_310 => ?_)
      · skip
        exact absurd c_310 (by omega)
      refine x_aloadn (pc := 313) dX12_chase_313 rfl ?_
      refine x_iloadn (pc := 314) dX12_chase_314 rfl ?_
      refine x_iload (pc := 315) dX12_chase_315 rfl ?_
      refine x_cVI (pc := 317) dX12_chase_317 lk_X12_260 (c_mo_hasPutting hL hF aa.2.1 hsk hk15 hv (show j < 4 by omega)) k_127 ⟨by decide, rfl⟩ (hL 127 (by decide) (by decide)) (⟨by decide, by decide⟩) (Nat.le_of_ble_eq_true rfl) rfl ?_
      rintro x G3 ⟨hx, hput, k3, hF⟩
      have q2 : FM z_cS z_cF G0 G3 := q1.tr (k3.mono (by decide) (by decide))
      have b2 : G3 127 34 = G0 127 34 := by rw [k3 _ _ (by decide) (fun _ => by decide)]; exact b1
      refine x_ieq (tgt := 419) (pc := 320) dX12_chase_320 (by decide) (by omega) (fun c_320 => ?_) (fun c_320 => ?_)
      · skip
        refine x_iinc (pc := 419) dX12_chase_419 rfl (by decide) rfl ?_
        refine x_goto (tgt := 274) (pc := 422) dX12_chase_422 (by decide) ?_
        exact ihx _ _ (hoff (fun w => by omega) _ k3) q2 b2 hF
      · skip
        have hjz : j < zqn (zhd s.1) (zhd s.2) := by omega
        obtain ⟨u, hu, hu4, hu8⟩ := zpu_nat (k := j) ⟨(zhd_bd v1).1, (zhd_bd v1).2.1⟩ ⟨(zhd_bd v2).1, (zhd_bd v2).2.1⟩ hjz
        have hpn := zpi_nat (k := j) (zhd_bd v1) (zhd_bd v2)
        obtain ⟨p, hp⟩ : ∃ p, p = zpi (zhd s.1) (zhd s.2) j := ⟨_, rfl⟩
        rw [← hp] at hpn
        have hpb : -1 ≤ p ∧ p < 8 := by rcases hpn with w | ⟨P, w, w2⟩ <;> omega
        obtain ⟨f1, f2⟩ := hput hjz
        rw [hu] at f1
        rw [← hp] at f2
        have hp2 : (1 : Int) * 2 ^ (u - 4) = ((2 ^ (u - 4) : Nat) : Int) := by simp
        refine x_aloadn (pc := 323) dX12_chase_323 rfl ?_
        refine x_getI (pc := 324) dX12_chase_324 fl_X12_237 k_127 (hL 127 (by decide) (by decide)) ?_
        rw [f2]
        refine x_iconst (pc := 327) dX12_chase_327 ?_
        refine x_cne (tgt := 342) (pc := 328) dX12_chase_328 (by decide) (by omega) (fun c_328 => ?_) (fun c_328 => ?_)
        · skip
          refine x_iconst (pc := 342) dX12_chase_342 ?_
          have fk : ∀ e', e' < e → G3 151 e' = ztg s0 e' ∧ G3 152 e' = zfe s0 e' := fun e' h' => by rw [k3 151 _ (by decide) (fun w => absurd w (by decide)), k3 152 _ (by decide) (fun w => absurd w (by decide))]; exact qt e' h'
          first
          | refine l_mo_chM (g := 0) hL hF h0 he (by omega) hs2 hjz (aa.FM k3 (by decide) (by decide) (by decide) (by decide) (by decide) (by decide)) a2 fk hu ⟨hu4, hu8⟩ hp hpn f1 f2 (Or.inr ⟨by omega, rfl⟩) (fun G' o5 d1 d2 hF => ?_) (fun G' o5 d1 d2 hF => cB G' o5 d1 (q2.tr (d2.mono (by decide) (by decide))) hF)
          | refine l_mo_chM (g := 2 ^ (u - 4)) hL hF h0 he (by omega) hs2 hjz (aa.FM k3 (by decide) (by decide) (by decide) (by decide) (by decide) (by decide)) a2 fk hu ⟨hu4, hu8⟩ hp hpn f1 f2 (Or.inl ⟨by omega, rfl⟩) (fun G' o5 d1 d2 hF => ?_) (fun G' o5 d1 d2 hF => cB G' o5 d1 (q2.tr (d2.mono (by decide) (by decide))) hF)
          refine x_iinc (pc := 419) dX12_chase_419 rfl (by decide) rfl ?_
          refine x_goto (tgt := 274) (pc := 422) dX12_chase_422 (by decide) ?_
          exact ihx _ _ d1 (q2.tr (d2.mono (by decide) (by decide))) (by rw [d2 _ _ (by decide) (fun _ => by decide)]; exact b2) hF
        · skip
          refine x_iconst (pc := 331) dX12_chase_331 ?_
          refine x_aloadn (pc := 332) dX12_chase_332 rfl ?_
          refine x_getI (pc := 333) dX12_chase_333 fl_X12_240 k_127 (hL 127 (by decide) (by decide)) ?_
          rw [f1]
          refine x_iconst (pc := 336) dX12_chase_336 ?_
          refine x_isub (pc := 337) dX12_chase_337 ?_
          refine x_ishl (pc := 338) dX12_chase_338 (u - 4) (by omega) (by omega) ?_
          rw [hp2]
          refine x_goto (tgt := 343) (pc := 339) dX12_chase_339 (by decide) ?_
          have fk : ∀ e', e' < e → G3 151 e' = ztg s0 e' ∧ G3 152 e' = zfe s0 e' := fun e' h' => by rw [k3 151 _ (by decide) (fun w => absurd w (by decide)), k3 152 _ (by decide) (fun w => absurd w (by decide))]; exact qt e' h'
          first
          | refine l_mo_chM (g := 0) hL hF h0 he (by omega) hs2 hjz (aa.FM k3 (by decide) (by decide) (by decide) (by decide) (by decide) (by decide)) a2 fk hu ⟨hu4, hu8⟩ hp hpn f1 f2 (Or.inr ⟨by omega, rfl⟩) (fun G' o5 d1 d2 hF => ?_) (fun G' o5 d1 d2 hF => cB G' o5 d1 (q2.tr (d2.mono (by decide) (by decide))) hF)
          | refine l_mo_chM (g := 2 ^ (u - 4)) hL hF h0 he (by omega) hs2 hjz (aa.FM k3 (by decide) (by decide) (by decide) (by decide) (by decide) (by decide)) a2 fk hu ⟨hu4, hu8⟩ hp hpn f1 f2 (Or.inl ⟨by omega, rfl⟩) (fun G' o5 d1 d2 hF => ?_) (fun G' o5 d1 d2 hF => cB G' o5 d1 (q2.tr (d2.mono (by decide) (by decide))) hF)
          refine x_iinc (pc := 419) dX12_chase_419 rfl (by decide) rfl ?_
          refine x_goto (tgt := 274) (pc := 422) dX12_chase_422 (by decide) ?_
          exact ihx _ _ d1 (q2.tr (d2.mono (by decide) (by decide))) (by rw [d2 _ _ (by decide) (fun _ => by decide)]; exact b2) hF
theorem l_mo_chK {e0 b2 f : Int} {G0 : Nat → Nat → Int} (hL : x_SL L) (h0 : zvS s0) :
    ∀ (r k : Nat) (G : Nat → Nat → Int) (o4 o5 : Option (Nat × Int)), k + r = 1501 → k ≤ 1500 → mGa s0 (4 * k) G → FM z_cS z_cF G0 G → G 127 34 = f → x_Fin xFL G →
    X mX12_chase 2 0 0 (pCh L G0 s0 f) 263 [some (vR 127), some (vI e0), some (vI b2), some (vI k), o4, o5] [] L G 0 0 := by
  intro r
  induction r with
  | zero => intro k G o4 o5 hk hk2; omega
  | succ r ih =>
    intro k G o4 o5 hk hk2 ha hQ hbf hF
    obtain ⟨a1, a2, a3⟩ := id ha
    have g1 := a1.1
    by_cases c : k < (zN s0 (4 * k)).length
    · obtain ⟨s, hs⟩ : ∃ s, (zN s0 (4 * k))[k]? = some s := ⟨_, List.getElem?_eq_getElem c⟩
      refine x_iloadn (pc := 263) dX12_chase_263 rfl ?_
      refine x_aloadn (pc := 264) dX12_chase_264 rfl ?_
      refine x_getI (pc := 265) dX12_chase_265 fl_X12_234 k_127 (hL 127 (by decide) (by decide)) ?_
      rw [g1]
      refine x_cge (tgt := 431) (pc := 268) dX12_chase_268 (by decide) (by omega) (fun c_268 => ?_) (fun c_268 => ?_)
      · skip
        exact absurd c_268 (by omega)
      refine x_iconst (pc := 271) dX12_chase_271 ?_
      refine x_istore (pc := 272) dX12_chase_272 (by decide) rfl ?_
      refine l_mo_chJ hL h0 hs (by omega) (fun G' o5 d1 d2 d3 hF => ?_) (fun G' j o5 hj d1 d2 hF => ?_) 4 0 G _ (Nat.zero_add _) ha FM.rf rfl hF
      · refine x_iinc (pc := 425) dX12_chase_425 rfl (by decide) rfl ?_
        refine x_goto (tgt := 263) (pc := 428) dX12_chase_428 (by decide) ?_
        exact ih (k + 1) G' _ _ (by omega) (by omega) (by rw [show 4 * (k + 1) = 4 * k + 4 by omega]; exact d1) (hQ.tr d2) (d3.trans hbf) hF
      · have hl := zN_len (s0 := s0) (show 4 * k + j + 1 ≤ 6000 by omega)
        refine x_bipush (pc := 416) dX12_chase_416 (by decide) ?_
        refine x_rI (pc := 418) dX12_chase_418 rfl ?_
        exact ⟨Or.inl ⟨rfl, by omega⟩, hQ.tr d2, hF⟩
    · have hz : zN s0 6000 = zN s0 (4 * k) := zN_end (by omega) 6000 (by omega)
      have hGr := zGr_N (s0 := s0) (by rw [hz]; exact a2)
      rw [hz] at hGr
      have hB : ∀ k', k' < (zN s0 (4 * k)).length → 0 ≤ G 150 k' ∧ G 150 k' < 1000 ∧ (G 150 k' = 0 ↔ zBd0 s0 k') := fun k' hk' => by
        obtain ⟨s, hs⟩ : ∃ s, (zN s0 (4 * k))[k']? = some s := ⟨_, List.getElem?_eq_getElem hk'⟩
        have hv := zN_v h0 _ s (List.mem_of_getElem? hs)
        have hl24 := hv.2.2.1
        obtain ⟨m1, m2, m3⟩ := a1.2.1 k' s hs
        unfold zBd0
        rw [m2, hz, hs]
        refine ⟨by omega, by omega, ?_⟩
        constructor
        · intro w
          have e1 : s.1 = [] := List.length_eq_zero_iff.mp (by omega)
          have e2 : s.2 = [] := List.length_eq_zero_iff.mp (by omega)
          exact congrArg some (Prod.ext e1 e2)
        · intro w
          have w := Option.some.inj w
          rw [w]; rfl
      refine x_iloadn (pc := 263) dX12_chase_263 rfl ?_
      refine x_aloadn (pc := 264) dX12_chase_264 rfl ?_
      refine x_getI (pc := 265) dX12_chase_265 fl_X12_234 k_127 (hL 127 (by decide) (by decide)) ?_
      rw [g1]
      refine x_cge (tgt := 431) (pc := 268) dX12_chase_268 (by decide) (by omega) (fun c_268 => ?_) (fun c_268 => ?_)
      rotate_left
      · skip
        exact absurd c_268 (by omega)
      refine x_aloadn (pc := 431) dX12_chase_431 rfl ?_
      refine x_cVV (pc := 432) dX12_chase_432 lk_X12_271 (c_mo_layDist (n := (zN s0 (4 * k)).length) (T := ztg s0) (B := zBd0 s0) hL hF ⟨g1, a2, fun e he => (a3 e (by omega)).1⟩ hGr.1 hB) k_127 ⟨by decide, rfl⟩ (hL 127 (by decide) (by decide)) (⟨by decide, by decide⟩) (Nat.le_of_ble_eq_true rfl) rfl ?_
      rintro G2 ⟨d1, d2, hF⟩
      refine x_iconst (pc := 435) dX12_chase_435 ?_
      refine x_rI (pc := 436) dX12_chase_436 rfl ?_
      refine ⟨Or.inr ⟨rfl, by rw [hz]; exact a2, ⟨?_, fun e he => ?_, fun k' hk' => ?_⟩, ?_⟩, hQ.tr (d2.mono (by decide) (by decide)), hF⟩
      · rw [hz]; exact a1.FM d2 (by decide) (by decide) (by decide) (by decide) (by decide) (by decide)
      · rw [hz] at he
        rw [d2 151 _ (by decide) (fun w => absurd w (by decide)), d2 152 _ (by decide) (fun w => absurd w (by decide))]
        exact a3 e (by omega)
      · rw [hz] at hk' ⊢
        exact d1 k' hk'
      · rw [d2 _ _ (by decide) (fun _ => by decide)]; exact hbf
end XCM

