/-! the law: answers, answer, rank, sure, tell -/
theorem w_answers {i N r k n : Nat} {sc : Nat → Int} {L : List Nat} {G : Nat → Nat → Int} (hN : N ≤ 2560) (hi : i + 5 ≤ N) (hsc : zSc sc) (inv : zInv L G) (bu : zBu (r + 1) L k n) (next : zNx i r N sc) : X (mL_law N sc) 10 600000 7302250 qT 362 [some (vR 0), some (vR 1), some (vR 127), some (vI i)] [] L G k n := by
  have inv0 := inv
  obtain ⟨⟨n0, b, hTc, hTm⟩, ⟨m, S, I, lo, hi, mk, hEc, hEm, hBc, hBm, hU, hC⟩, ⟨tw, tn, hHc, hHm⟩, ⟨dn, dl, hDc, hDm⟩, ⟨pn, pl, hPc, hPm⟩, ⟨s, sn, sl, hSc, hSm, hO⟩, hA, hF, hL⟩ := inv0
  refine x_aloadn (pc := 362) dL_law_362 rfl ?_
  refine x_callV (pc := 363) dL_law_363 lk_L_43 (c_ts_answers (mc := 2) (ms := 13122) hL hF hEc hBc hA hU (Or.inr ⟨Nat.le_refl _, Nat.le_refl _⟩)) k_1 ⟨by decide, rfl⟩ (hL 1 (by decide) (by decide)) ⟨by decide, by decide⟩ ⟨by have := bu.1; omega, by have := bu.2; omega⟩ (Nat.le_of_ble_eq_true rfl) rfl ?_
  rintro v L1 G1 ⟨⟨x, rfl, hx⟩, al, a1, u1, k1, hF1⟩ hs
  have hL1 := al.SL hL
  have q1 := hEm.Fk (F := []) k1.fm (by decide) (by decide) (by decide) (by decide)
  have q2 := hBm.Fk (F := []) k1.fm (by decide) (by decide) (by decide)
  have q3 := hHm.Fk (F := []) k1.fm (by decide) (by decide)
  refine x_aloadn (pc := 366) dL_law_366 rfl ?_
  refine x_cVI (pc := 367) dL_law_367 lk_L_46 (c_mo_answers hL1 hF1 q1 q2) k_127 ⟨by decide, rfl⟩ (hL1 127 (by decide) (by decide)) ⟨by decide, by decide⟩ (Nat.le_of_ble_eq_true rfl) rfl ?_
  rintro y G2 h2
  obtain ⟨hy, k2, hF2⟩ := h2
  refine x_ceqS (tgt := 1091) (pc := 370) dL_law_370 (by decide) (hx.trans hy.symm) ?_
  have kk : FM (zanS ++ zamS) [22, 25] G G2 := (k1.fm.mono (fun i w => List.mem_append_left _ w) (fun _ w => w)).tr (k2.mono (fun i w => List.mem_append_right _ w) (fun _ w => w))
  exact next _ _ _ _ ⟨(inv.1.k kk (by decide +kernel) (by decide +kernel)), (⟨m, S, I, lo, hi, mk, cEq.FR hEc kk.fr (by decide), hEm.Fk kk (by decide) (by decide) (by decide) (by decide), cBd.FR hBc kk.fr (by decide) (by decide) (by decide), hBm.Fk kk (by decide) (by decide) (by decide), u1.FR k2.fr (by decide) (by decide) (by decide) (by decide), hC.FR hs al.new kk.fr (by decide)⟩), (inv.2.2.1.k kk (by decide +kernel)), (inv.2.2.2.1.k kk (by decide +kernel)), (inv.2.2.2.2.1.k kk (by decide +kernel)), (inv.2.2.2.2.2.1.k kk (by decide +kernel) (by decide +kernel)), (a1.FR k2.fr (by decide)), hF2, hL1⟩ (bu.sv hs)
theorem w_answer {i N r k n : Nat} {sc : Nat → Int} {L : List Nat} {G : Nat → Nat → Int} (hN : N ≤ 2560) (hi : i + 5 ≤ N) (hsc : zSc sc) (inv : zInv L G) (bu : zBu (r + 1) L k n) (next : zNx i r N sc) : X (mL_law N sc) 10 600000 7302250 qT 375 [some (vR 0), some (vR 1), some (vR 127), some (vI i)] [] L G k n := by
  have inv0 := inv
  obtain ⟨⟨n0, b, hTc, hTm⟩, ⟨m, S, I, lo, hi, mk, hEc, hEm, hBc, hBm, hU, hC⟩, ⟨tw, tn, hHc, hHm⟩, ⟨dn, dl, hDc, hDm⟩, ⟨pn, pl, hPc, hPm⟩, ⟨s, sn, sl, hSc, hSm, hO⟩, hA, hF, hL⟩ := inv0
  refine x_aloadn (pc := 375) dL_law_375 rfl ?_
  refine x_aloadn (pc := 376) dL_law_376 rfl ?_
  refine x_iloadn (pc := 377) dL_law_377 rfl ?_
  refine x_iconst (pc := 378) dL_law_378 ?_
  refine x_iadd (pc := 379) dL_law_379 ?_
  refine x_sld (N := N) (i + 1) (pc := 380) dL_law_380 rfl ⟨by omega, by omega, by omega⟩ ?_
  refine x_aloadn (pc := 381) dL_law_381 rfl ?_
  refine x_iloadn (pc := 382) dL_law_382 rfl ?_
  refine x_iconst (pc := 383) dL_law_383 ?_
  refine x_iadd (pc := 384) dL_law_384 ?_
  refine x_sld (N := N) (i + 2) (pc := 385) dL_law_385 rfl ⟨by omega, by omega, by omega⟩ ?_
  refine x_aloadn (pc := 386) dL_law_386 rfl ?_
  refine x_iloadn (pc := 387) dL_law_387 rfl ?_
  refine x_iconst (pc := 388) dL_law_388 ?_
  refine x_iadd (pc := 389) dL_law_389 ?_
  refine x_sld (N := N) (i + 3) (pc := 390) dL_law_390 rfl ⟨by omega, by omega, by omega⟩ ?_
  refine x_callV (pc := 391) dL_law_391 lk_L_47 (c_ts_answer (mc := 2) (ms := 13122) hL hF hEc hBc hA hU (Or.inr ⟨Nat.le_refl _, Nat.le_refl _⟩) (hsc (i + 1)) (hsc (i + 2)) (hsc (i + 3))) k_1 ⟨by decide, rfl⟩ (hL 1 (by decide) (by decide)) ⟨by decide, by decide⟩ ⟨by have := bu.1; omega, by have := bu.2; omega⟩ (Nat.le_of_ble_eq_true rfl) rfl ?_
  rintro v L1 G1 ⟨⟨x, rfl, hx⟩, al, a1, u1, k1, hF1⟩ hs
  have hL1 := al.SL hL
  have q1 := hEm.Fk (F := []) k1.fm (by decide) (by decide) (by decide) (by decide)
  have q2 := hBm.Fk (F := []) k1.fm (by decide) (by decide) (by decide)
  have q3 := hHm.Fk (F := []) k1.fm (by decide) (by decide)
  refine x_aloadn (pc := 394) dL_law_394 rfl ?_
  refine x_aloadn (pc := 395) dL_law_395 rfl ?_
  refine x_iloadn (pc := 396) dL_law_396 rfl ?_
  refine x_iconst (pc := 397) dL_law_397 ?_
  refine x_iadd (pc := 398) dL_law_398 ?_
  refine x_sld (N := N) (i + 1) (pc := 399) dL_law_399 rfl ⟨by omega, by omega, by omega⟩ ?_
  refine x_aloadn (pc := 400) dL_law_400 rfl ?_
  refine x_iloadn (pc := 401) dL_law_401 rfl ?_
  refine x_iconst (pc := 402) dL_law_402 ?_
  refine x_iadd (pc := 403) dL_law_403 ?_
  refine x_sld (N := N) (i + 2) (pc := 404) dL_law_404 rfl ⟨by omega, by omega, by omega⟩ ?_
  refine x_aloadn (pc := 405) dL_law_405 rfl ?_
  refine x_iloadn (pc := 406) dL_law_406 rfl ?_
  refine x_iconst (pc := 407) dL_law_407 ?_
  refine x_iadd (pc := 408) dL_law_408 ?_
  refine x_sld (N := N) (i + 3) (pc := 409) dL_law_409 rfl ⟨by omega, by omega, by omega⟩ ?_
  refine x_cVI (pc := 410) dL_law_410 lk_L_50 (c_mo_answer hL1 hF1 q1 q2 (hsc (i + 1)) (hsc (i + 2)) (hsc (i + 3))) k_127 ⟨by decide, rfl⟩ (hL1 127 (by decide) (by decide)) ⟨by decide, by decide⟩ (Nat.le_of_ble_eq_true rfl) rfl ?_
  rintro y G2 h2
  obtain ⟨hy, k2, hF2⟩ := h2
  refine x_ceqS (tgt := 1091) (pc := 413) dL_law_413 (by decide) (zAn_fn hx hy) ?_
  have kk : FM (zanS ++ zamS) [22, 25] G G2 := (k1.fm.mono (fun i w => List.mem_append_left _ w) (fun _ w => w)).tr (k2.mono (fun i w => List.mem_append_right _ w) (fun _ w => w))
  exact next _ _ _ _ ⟨(inv.1.k kk (by decide +kernel) (by decide +kernel)), (⟨m, S, I, lo, hi, mk, cEq.FR hEc kk.fr (by decide), hEm.Fk kk (by decide) (by decide) (by decide) (by decide), cBd.FR hBc kk.fr (by decide) (by decide) (by decide), hBm.Fk kk (by decide) (by decide) (by decide), u1.FR k2.fr (by decide) (by decide) (by decide) (by decide), hC.FR hs al.new kk.fr (by decide)⟩), (inv.2.2.1.k kk (by decide +kernel)), (inv.2.2.2.1.k kk (by decide +kernel)), (inv.2.2.2.2.1.k kk (by decide +kernel)), (inv.2.2.2.2.2.1.k kk (by decide +kernel) (by decide +kernel)), (a1.FR k2.fr (by decide)), hF2, hL1⟩ (bu.sv hs)
theorem w_rank {i N r k n : Nat} {sc : Nat → Int} {L : List Nat} {G : Nat → Nat → Int} (hN : N ≤ 2560) (hi : i + 5 ≤ N) (hsc : zSc sc) (inv : zInv L G) (bu : zBu (r + 1) L k n) (next : zNx i r N sc) : X (mL_law N sc) 10 600000 7302250 qT 461 [some (vR 0), some (vR 1), some (vR 127), some (vI i)] [] L G k n := by
  have inv0 := inv
  obtain ⟨⟨n0, b, hTc, hTm⟩, ⟨m, S, I, lo, hi, mk, hEc, hEm, hBc, hBm, hU, hC⟩, ⟨tw, tn, hHc, hHm⟩, ⟨dn, dl, hDc, hDm⟩, ⟨pn, pl, hPc, hPm⟩, ⟨s, sn, sl, hSc, hSm, hO⟩, hA, hF, hL⟩ := inv0
  refine x_aloadn (pc := 461) dL_law_461 rfl ?_
  refine x_callV (pc := 462) dL_law_462 lk_L_55 (c_ts_rank (mc := 2) (ms := 13122) hL hF hEc hBc hA hU hHc (Or.inr ⟨Nat.le_refl _, Nat.le_refl _⟩)) k_1 ⟨by decide, rfl⟩ (hL 1 (by decide) (by decide)) ⟨by decide, by decide⟩ ⟨by have := bu.1; omega, by have := bu.2; omega⟩ (Nat.le_of_ble_eq_true rfl) rfl ?_
  rintro v L1 G1 ⟨⟨x, rfl, hx⟩, al, a1, u1, k1, hF1⟩ hs
  have hL1 := al.SL hL
  have q1 := hEm.Fk (F := []) k1.fm (by decide) (by decide) (by decide) (by decide)
  have q2 := hBm.Fk (F := []) k1.fm (by decide) (by decide) (by decide)
  have q3 := hHm.Fk (F := []) k1.fm (by decide) (by decide)
  refine x_aloadn (pc := 465) dL_law_465 rfl ?_
  refine x_cVI (pc := 466) dL_law_466 lk_L_58 (c_mo_rank hL1 hF1 q1 q2 q3) k_127 ⟨by decide, rfl⟩ (hL1 127 (by decide) (by decide)) ⟨by decide, by decide⟩ (Nat.le_of_ble_eq_true rfl) rfl ?_
  rintro y G2 h2
  obtain ⟨hy, k2, hF2⟩ := h2
  refine x_ceqS (tgt := 1091) (pc := 469) dL_law_469 (by decide) (zRQ_fn hx hy) ?_
  have kk : FM (zanS ++ zamS) [22, 25] G G2 := (k1.fm.mono (fun i w => List.mem_append_left _ w) (fun _ w => w)).tr (k2.mono (fun i w => List.mem_append_right _ w) (fun _ w => w))
  exact next _ _ _ _ ⟨(inv.1.k kk (by decide +kernel) (by decide +kernel)), (⟨m, S, I, lo, hi, mk, cEq.FR hEc kk.fr (by decide), hEm.Fk kk (by decide) (by decide) (by decide) (by decide), cBd.FR hBc kk.fr (by decide) (by decide) (by decide), hBm.Fk kk (by decide) (by decide) (by decide), u1.FR k2.fr (by decide) (by decide) (by decide) (by decide), hC.FR hs al.new kk.fr (by decide)⟩), (inv.2.2.1.k kk (by decide +kernel)), (inv.2.2.2.1.k kk (by decide +kernel)), (inv.2.2.2.2.1.k kk (by decide +kernel)), (inv.2.2.2.2.2.1.k kk (by decide +kernel) (by decide +kernel)), (a1.FR k2.fr (by decide)), hF2, hL1⟩ (bu.sv hs)
theorem w_sure {i N r k n : Nat} {sc : Nat → Int} {L : List Nat} {G : Nat → Nat → Int} (hN : N ≤ 2560) (hi : i + 5 ≤ N) (hsc : zSc sc) (inv : zInv L G) (bu : zBu (r + 1) L k n) (next : zNx i r N sc) : X (mL_law N sc) 10 600000 7302250 qT 474 [some (vR 0), some (vR 1), some (vR 127), some (vI i)] [] L G k n := by
  have inv0 := inv
  obtain ⟨⟨n0, b, hTc, hTm⟩, ⟨m, S, I, lo, hi, mk, hEc, hEm, hBc, hBm, hU, hC⟩, ⟨tw, tn, hHc, hHm⟩, ⟨dn, dl, hDc, hDm⟩, ⟨pn, pl, hPc, hPm⟩, ⟨s, sn, sl, hSc, hSm, hO⟩, hA, hF, hL⟩ := inv0
  refine x_aloadn (pc := 474) dL_law_474 rfl ?_
  refine x_aloadn (pc := 475) dL_law_475 rfl ?_
  refine x_iloadn (pc := 476) dL_law_476 rfl ?_
  refine x_iconst (pc := 477) dL_law_477 ?_
  refine x_iadd (pc := 478) dL_law_478 ?_
  refine x_sld (N := N) (i + 1) (pc := 479) dL_law_479 rfl ⟨by omega, by omega, by omega⟩ ?_
  refine x_aloadn (pc := 480) dL_law_480 rfl ?_
  refine x_iloadn (pc := 481) dL_law_481 rfl ?_
  refine x_iconst (pc := 482) dL_law_482 ?_
  refine x_iadd (pc := 483) dL_law_483 ?_
  refine x_sld (N := N) (i + 2) (pc := 484) dL_law_484 rfl ⟨by omega, by omega, by omega⟩ ?_
  refine x_callV (pc := 485) dL_law_485 lk_L_59 (c_ts_sure (mc := 2) (ms := 13122) hL hF hEc hBc hA hU (Or.inr ⟨Nat.le_refl _, Nat.le_refl _⟩) (hsc (i + 1)) (hsc (i + 2))) k_1 ⟨by decide, rfl⟩ (hL 1 (by decide) (by decide)) ⟨by decide, by decide⟩ ⟨by have := bu.1; omega, by have := bu.2; omega⟩ (Nat.le_of_ble_eq_true rfl) rfl ?_
  rintro v L1 G1 ⟨⟨x, rfl, hx⟩, al, a1, u1, k1, hF1⟩ hs
  have hL1 := al.SL hL
  have q1 := hEm.Fk (F := []) k1.fm (by decide) (by decide) (by decide) (by decide)
  have q2 := hBm.Fk (F := []) k1.fm (by decide) (by decide) (by decide)
  have q3 := hHm.Fk (F := []) k1.fm (by decide) (by decide)
  refine x_aloadn (pc := 488) dL_law_488 rfl ?_
  refine x_aloadn (pc := 489) dL_law_489 rfl ?_
  refine x_iloadn (pc := 490) dL_law_490 rfl ?_
  refine x_iconst (pc := 491) dL_law_491 ?_
  refine x_iadd (pc := 492) dL_law_492 ?_
  refine x_sld (N := N) (i + 1) (pc := 493) dL_law_493 rfl ⟨by omega, by omega, by omega⟩ ?_
  refine x_aloadn (pc := 494) dL_law_494 rfl ?_
  refine x_iloadn (pc := 495) dL_law_495 rfl ?_
  refine x_iconst (pc := 496) dL_law_496 ?_
  refine x_iadd (pc := 497) dL_law_497 ?_
  refine x_sld (N := N) (i + 2) (pc := 498) dL_law_498 rfl ⟨by omega, by omega, by omega⟩ ?_
  refine x_cVI (pc := 499) dL_law_499 lk_L_63 (c_mo_sure hL1 hF1 q1 q2 (hsc (i + 1)) (hsc (i + 2))) k_127 ⟨by decide, rfl⟩ (hL1 127 (by decide) (by decide)) ⟨by decide, by decide⟩ (Nat.le_of_ble_eq_true rfl) rfl ?_
  rintro y G2 h2
  obtain ⟨hy, k2, hF2⟩ := h2
  refine x_ceqS (tgt := 1091) (pc := 502) dL_law_502 (by decide) (hx.trans hy.symm) ?_
  have kk : FM (zanS ++ zamS) [22, 25] G G2 := (k1.fm.mono (fun i w => List.mem_append_left _ w) (fun _ w => w)).tr (k2.mono (fun i w => List.mem_append_right _ w) (fun _ w => w))
  exact next _ _ _ _ ⟨(inv.1.k kk (by decide +kernel) (by decide +kernel)), (⟨m, S, I, lo, hi, mk, cEq.FR hEc kk.fr (by decide), hEm.Fk kk (by decide) (by decide) (by decide) (by decide), cBd.FR hBc kk.fr (by decide) (by decide) (by decide), hBm.Fk kk (by decide) (by decide) (by decide), u1.FR k2.fr (by decide) (by decide) (by decide) (by decide), hC.FR hs al.new kk.fr (by decide)⟩), (inv.2.2.1.k kk (by decide +kernel)), (inv.2.2.2.1.k kk (by decide +kernel)), (inv.2.2.2.2.1.k kk (by decide +kernel)), (inv.2.2.2.2.2.1.k kk (by decide +kernel) (by decide +kernel)), (a1.FR k2.fr (by decide)), hF2, hL1⟩ (bu.sv hs)
theorem w_tell {i N r k n : Nat} {sc : Nat → Int} {L : List Nat} {G : Nat → Nat → Int} (hN : N ≤ 2560) (hi : i + 5 ≤ N) (hsc : zSc sc) (inv : zInv L G) (bu : zBu (r + 1) L k n) (next : zNx i r N sc) : X (mL_law N sc) 10 600000 7302250 qT 418 [some (vR 0), some (vR 1), some (vR 127), some (vI i)] [] L G k n := by
  have inv0 := inv
  obtain ⟨⟨n0, b, hTc, hTm⟩, ⟨m, S, I, lo, hi, mk, hEc, hEm, hBc, hBm, hU, hC⟩, ⟨tw, tn, hHc, hHm⟩, ⟨dn, dl, hDc, hDm⟩, ⟨pn, pl, hPc, hPm⟩, ⟨s, sn, sl, hSc, hSm, hO⟩, hA, hF, hL⟩ := inv0
  refine x_aloadn (pc := 418) dL_law_418 rfl ?_
  refine x_aloadn (pc := 419) dL_law_419 rfl ?_
  refine x_iloadn (pc := 420) dL_law_420 rfl ?_
  refine x_iconst (pc := 421) dL_law_421 ?_
  refine x_iadd (pc := 422) dL_law_422 ?_
  refine x_sld (N := N) (i + 1) (pc := 423) dL_law_423 rfl ⟨by omega, by omega, by omega⟩ ?_
  refine x_aloadn (pc := 424) dL_law_424 rfl ?_
  refine x_iloadn (pc := 425) dL_law_425 rfl ?_
  refine x_iconst (pc := 426) dL_law_426 ?_
  refine x_iadd (pc := 427) dL_law_427 ?_
  refine x_sld (N := N) (i + 2) (pc := 428) dL_law_428 rfl ⟨by omega, by omega, by omega⟩ ?_
  refine x_aloadn (pc := 429) dL_law_429 rfl ?_
  refine x_iloadn (pc := 430) dL_law_430 rfl ?_
  refine x_iconst (pc := 431) dL_law_431 ?_
  refine x_iadd (pc := 432) dL_law_432 ?_
  refine x_sld (N := N) (i + 3) (pc := 433) dL_law_433 rfl ⟨by omega, by omega, by omega⟩ ?_
  refine x_cVI (pc := 434) dL_law_434 lk_L_51 (c_ts_tell hL hF hHc (hsc (i + 1)) (hsc (i + 2)) (hsc (i + 3))) k_1 ⟨by decide, rfl⟩ (hL 1 (by decide) (by decide)) ⟨by decide, by decide⟩ (Nat.le_of_ble_eq_true rfl) rfl ?_
  rintro x G1 h1
  rcases h1 with ⟨g1, hx, e1⟩ | ⟨g1, g2, hx, e1⟩ | ⟨g1, g2, hx, c1, k1, hF1⟩
  · skip
    obtain rfl := e1.symm
    refine x_aloadn (pc := 437) dL_law_437 rfl ?_
    refine x_aloadn (pc := 438) dL_law_438 rfl ?_
    refine x_iloadn (pc := 439) dL_law_439 rfl ?_
    refine x_iconst (pc := 440) dL_law_440 ?_
    refine x_iadd (pc := 441) dL_law_441 ?_
    refine x_sld (N := N) (i + 1) (pc := 442) dL_law_442 rfl ⟨by omega, by omega, by omega⟩ ?_
    refine x_aloadn (pc := 443) dL_law_443 rfl ?_
    refine x_iloadn (pc := 444) dL_law_444 rfl ?_
    refine x_iconst (pc := 445) dL_law_445 ?_
    refine x_iadd (pc := 446) dL_law_446 ?_
    refine x_sld (N := N) (i + 2) (pc := 447) dL_law_447 rfl ⟨by omega, by omega, by omega⟩ ?_
    refine x_aloadn (pc := 448) dL_law_448 rfl ?_
    refine x_iloadn (pc := 449) dL_law_449 rfl ?_
    refine x_iconst (pc := 450) dL_law_450 ?_
    refine x_iadd (pc := 451) dL_law_451 ?_
    refine x_sld (N := N) (i + 3) (pc := 452) dL_law_452 rfl ⟨by omega, by omega, by omega⟩ ?_
    refine x_cVI (pc := 453) dL_law_453 lk_L_54 (c_mo_tell hL hF hHm (hsc (i + 1)) (hsc (i + 2)) (hsc (i + 3))) k_127 ⟨by decide, rfl⟩ (hL 127 (by decide) (by decide)) ⟨by decide, by decide⟩ (Nat.le_of_ble_eq_true rfl) rfl ?_
    rintro y G2 h2
    rcases h2 with ⟨g3, hy, e2⟩ | ⟨g3, g4, hy, e2⟩ | ⟨g3, g4, hy, m1, k2, hF2⟩
    · skip
      obtain rfl := e2.symm
      refine x_ceqS (tgt := 1091) (pc := 456) dL_law_456 (by decide) (hx.trans hy.symm) ?_
      exact next _ _ _ _ inv bu.st
    · skip
      first | exact absurd g3 g1 | exact absurd g1 g3 | exact absurd g4 g2 | exact absurd g2 g4 | exact absurd g3 g1.1 | (exfalso; omega)
    · skip
      first | exact absurd g3 g1 | exact absurd g1 g3 | exact absurd g4 g2 | exact absurd g2 g4 | exact absurd g3 g1.1 | (exfalso; omega)
  · skip
    obtain rfl := e1.symm
    refine x_aloadn (pc := 437) dL_law_437 rfl ?_
    refine x_aloadn (pc := 438) dL_law_438 rfl ?_
    refine x_iloadn (pc := 439) dL_law_439 rfl ?_
    refine x_iconst (pc := 440) dL_law_440 ?_
    refine x_iadd (pc := 441) dL_law_441 ?_
    refine x_sld (N := N) (i + 1) (pc := 442) dL_law_442 rfl ⟨by omega, by omega, by omega⟩ ?_
    refine x_aloadn (pc := 443) dL_law_443 rfl ?_
    refine x_iloadn (pc := 444) dL_law_444 rfl ?_
    refine x_iconst (pc := 445) dL_law_445 ?_
    refine x_iadd (pc := 446) dL_law_446 ?_
    refine x_sld (N := N) (i + 2) (pc := 447) dL_law_447 rfl ⟨by omega, by omega, by omega⟩ ?_
    refine x_aloadn (pc := 448) dL_law_448 rfl ?_
    refine x_iloadn (pc := 449) dL_law_449 rfl ?_
    refine x_iconst (pc := 450) dL_law_450 ?_
    refine x_iadd (pc := 451) dL_law_451 ?_
    refine x_sld (N := N) (i + 3) (pc := 452) dL_law_452 rfl ⟨by omega, by omega, by omega⟩ ?_
    refine x_cVI (pc := 453) dL_law_453 lk_L_54 (c_mo_tell hL hF hHm (hsc (i + 1)) (hsc (i + 2)) (hsc (i + 3))) k_127 ⟨by decide, rfl⟩ (hL 127 (by decide) (by decide)) ⟨by decide, by decide⟩ (Nat.le_of_ble_eq_true rfl) rfl ?_
    rintro y G2 h2
    rcases h2 with ⟨g3, hy, e2⟩ | ⟨g3, g4, hy, e2⟩ | ⟨g3, g4, hy, m1, k2, hF2⟩
    · skip
      first | exact absurd g3 g1 | exact absurd g1 g3 | exact absurd g4 g2 | exact absurd g2 g4 | exact absurd g3 g1.1 | (exfalso; omega)
    · skip
      obtain rfl := e2.symm
      refine x_ceqS (tgt := 1091) (pc := 456) dL_law_456 (by decide) (hx.trans hy.symm) ?_
      exact next _ _ _ _ inv bu.st
    · skip
      first | exact absurd g3 g1 | exact absurd g1 g3 | exact absurd g4 g2 | exact absurd g2 g4 | exact absurd g3 g1.1 | (exfalso; omega)
  · skip
    have q1 := hHm.Fk (F := []) k1.fm (by decide) (by decide)
    refine x_aloadn (pc := 437) dL_law_437 rfl ?_
    refine x_aloadn (pc := 438) dL_law_438 rfl ?_
    refine x_iloadn (pc := 439) dL_law_439 rfl ?_
    refine x_iconst (pc := 440) dL_law_440 ?_
    refine x_iadd (pc := 441) dL_law_441 ?_
    refine x_sld (N := N) (i + 1) (pc := 442) dL_law_442 rfl ⟨by omega, by omega, by omega⟩ ?_
    refine x_aloadn (pc := 443) dL_law_443 rfl ?_
    refine x_iloadn (pc := 444) dL_law_444 rfl ?_
    refine x_iconst (pc := 445) dL_law_445 ?_
    refine x_iadd (pc := 446) dL_law_446 ?_
    refine x_sld (N := N) (i + 2) (pc := 447) dL_law_447 rfl ⟨by omega, by omega, by omega⟩ ?_
    refine x_aloadn (pc := 448) dL_law_448 rfl ?_
    refine x_iloadn (pc := 449) dL_law_449 rfl ?_
    refine x_iconst (pc := 450) dL_law_450 ?_
    refine x_iadd (pc := 451) dL_law_451 ?_
    refine x_sld (N := N) (i + 3) (pc := 452) dL_law_452 rfl ⟨by omega, by omega, by omega⟩ ?_
    refine x_cVI (pc := 453) dL_law_453 lk_L_54 (c_mo_tell hL hF1 q1 (hsc (i + 1)) (hsc (i + 2)) (hsc (i + 3))) k_127 ⟨by decide, rfl⟩ (hL 127 (by decide) (by decide)) ⟨by decide, by decide⟩ (Nat.le_of_ble_eq_true rfl) rfl ?_
    rintro y G2 h2
    rcases h2 with ⟨g3, hy, e2⟩ | ⟨g3, g4, hy, e2⟩ | ⟨g3, g4, hy, m1, k2, hF2⟩
    · skip
      first | exact absurd g3 g1 | exact absurd g1 g3 | exact absurd g4 g2 | exact absurd g2 g4 | exact absurd g3 g1.1 | (exfalso; omega)
    · skip
      first | exact absurd g3 g1 | exact absurd g1 g3 | exact absurd g4 g2 | exact absurd g2 g4 | exact absurd g3 g1.1 | (exfalso; omega)
    · skip
      refine x_ceqS (tgt := 1091) (pc := 456) dL_law_456 (by decide) (hx.trans hy.symm) ?_
      have kk : FM ([50, 51] ++ [134, 135]) [] G G2 := (k1.fm.mono (fun i w => List.mem_append_left _ w) (fun _ w => w)).tr (k2.mono (fun i w => List.mem_append_right _ w) (fun _ w => w))
      exact next _ _ _ _ ⟨(inv.1.k kk (by decide +kernel) (by decide +kernel)), (inv.2.1.k kk (by decide +kernel) (by decide +kernel)), (⟨_, _, c1.FR k2.fr (by decide) (by decide), m1⟩), (inv.2.2.2.1.k kk (by decide +kernel)), (inv.2.2.2.2.1.k kk (by decide +kernel)), (inv.2.2.2.2.2.1.k kk (by decide +kernel) (by decide +kernel)), (hA.FR kk.fr (by decide +kernel)), hF2, hL⟩ bu.st

