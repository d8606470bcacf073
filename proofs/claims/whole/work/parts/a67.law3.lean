/-! the law: met, fewest, ring, putting, found -/
theorem w_met {i N r k n : Nat} {sc : Nat → Int} {L : List Nat} {G : Nat → Nat → Int} (hN : N ≤ 2560) (hi : i + 5 ≤ N) (hsc : zSc sc) (inv : zInv L G) (bu : zBu (r + 1) L k n) (next : zNx i r N sc) : X (mL_law N sc) 10 600000 7302250 qT 507 [some (vR 0), some (vR 1), some (vR 127), some (vI i)] [] L G k n := by
  have inv0 := inv
  obtain ⟨⟨n0, b, hTc, hTm⟩, ⟨m, S, I, lo, hi, mk, hEc, hEm, hBc, hBm, hU, hC⟩, ⟨tw, tn, hHc, hHm⟩, ⟨dn, dl, hDc, hDm⟩, ⟨pn, pl, hPc, hPm⟩, ⟨s, sn, sl, hSc, hSm, hO⟩, hA, hF, hL⟩ := inv0
  refine x_aloadn (pc := 507) dL_law_507 rfl ?_
  refine x_aloadn (pc := 508) dL_law_508 rfl ?_
  refine x_iloadn (pc := 509) dL_law_509 rfl ?_
  refine x_iconst (pc := 510) dL_law_510 ?_
  refine x_iadd (pc := 511) dL_law_511 ?_
  refine x_sld (N := N) (i + 1) (pc := 512) dL_law_512 rfl ⟨by omega, by omega, by omega⟩ ?_
  refine x_cChain (pc := 513) hL hEc.2.1 bu dL_law_513 lk_L_64 (fun mc ms hq => c_ts_met (mc := mc) (ms := ms) hL hF hEc hC (hsc (i + 1)) hq) rfl ⟨by decide, by decide⟩ rfl (fun x L1 G1 k9 n9 hx g hL1 hC1 k1 hF1 b1 => ?_)
  have q1 := hEm.Fk (F := []) k1.fm (by decide) (by decide) (by decide) (by decide)
  refine x_aloadn (pc := 516) dL_law_516 rfl ?_
  refine x_aloadn (pc := 517) dL_law_517 rfl ?_
  refine x_iloadn (pc := 518) dL_law_518 rfl ?_
  refine x_iconst (pc := 519) dL_law_519 ?_
  refine x_iadd (pc := 520) dL_law_520 ?_
  refine x_sld (N := N) (i + 1) (pc := 521) dL_law_521 rfl ⟨by omega, by omega, by omega⟩ ?_
  refine x_cVI (pc := 522) dL_law_522 lk_L_68 (c_mo_met hL1 hF1 q1 (hsc (i + 1))) k_127 ⟨by decide, rfl⟩ (hL1 127 (by decide) (by decide)) ⟨by decide, by decide⟩ (Nat.le_of_ble_eq_true rfl) rfl ?_
  rintro y G2 h2
  obtain ⟨hy, k2, hF2⟩ := h2
  refine x_ceqS (tgt := 1091) (pc := 525) dL_law_525 (by decide) (zMt_fn hx hy) ?_
  have kk : FM (z_fT ++ z_cS) z_cF G G2 := (k1.fm.mono (fun i w => List.mem_append_left _ w) (fun _ w => w)).tr (k2.mono (fun i w => List.mem_append_right _ w) (fun _ w => w))
  exact next _ _ _ _ ⟨(inv.1.k kk (by decide +kernel) (by decide +kernel)), (⟨m, S, I, lo, hi, mk, cEq.FR hEc kk.fr (by decide), hEm.Fk kk (by decide) (by decide) (by decide) (by decide), cBd.FR hBc kk.fr (by decide) (by decide) (by decide), hBm.Fk kk (by decide) (by decide) (by decide), (hU.gr g).FR kk.fr (by decide) (by decide) (by decide) (by decide), hC1.FR (fun _ w => w) (fun _ w => Or.inl w) k2.fr (by decide)⟩), (inv.2.2.1.k kk (by decide +kernel)), (inv.2.2.2.1.k kk (by decide +kernel)), (inv.2.2.2.2.1.k kk (by decide +kernel)), (inv.2.2.2.2.2.1.k kk (by decide +kernel) (by decide +kernel)), ((hA.gr g).FR kk.fr (by decide)), hF2, hL1⟩ b1
theorem w_fewest {i N r k n : Nat} {sc : Nat → Int} {L : List Nat} {G : Nat → Nat → Int} (hN : N ≤ 2560) (hi : i + 5 ≤ N) (hsc : zSc sc) (inv : zInv L G) (bu : zBu (r + 1) L k n) (next : zNx i r N sc) : X (mL_law N sc) 10 600000 7302250 qT 530 [some (vR 0), some (vR 1), some (vR 127), some (vI i)] [] L G k n := by
  have inv0 := inv
  obtain ⟨⟨n0, b, hTc, hTm⟩, ⟨m, S, I, lo, hi, mk, hEc, hEm, hBc, hBm, hU, hC⟩, ⟨tw, tn, hHc, hHm⟩, ⟨dn, dl, hDc, hDm⟩, ⟨pn, pl, hPc, hPm⟩, ⟨s, sn, sl, hSc, hSm, hO⟩, hA, hF, hL⟩ := inv0
  refine x_aloadn (pc := 530) dL_law_530 rfl ?_
  refine x_aloadn (pc := 531) dL_law_531 rfl ?_
  refine x_iloadn (pc := 532) dL_law_532 rfl ?_
  refine x_iconst (pc := 533) dL_law_533 ?_
  refine x_iadd (pc := 534) dL_law_534 ?_
  refine x_sld (N := N) (i + 1) (pc := 535) dL_law_535 rfl ⟨by omega, by omega, by omega⟩ ?_
  refine x_cChain (pc := 536) hL hEc.2.1 bu dL_law_536 lk_L_69 (fun mc ms hq => c_ts_fewest (mc := mc) (ms := ms) hL hF hEc hC (hsc (i + 1)) hq) rfl ⟨by decide, by decide⟩ rfl (fun x L1 G1 k9 n9 hx g hL1 hC1 k1 hF1 b1 => ?_)
  have q1 := hEm.Fk (F := []) k1.fm (by decide) (by decide) (by decide) (by decide)
  refine x_aloadn (pc := 539) dL_law_539 rfl ?_
  refine x_aloadn (pc := 540) dL_law_540 rfl ?_
  refine x_iloadn (pc := 541) dL_law_541 rfl ?_
  refine x_iconst (pc := 542) dL_law_542 ?_
  refine x_iadd (pc := 543) dL_law_543 ?_
  refine x_sld (N := N) (i + 1) (pc := 544) dL_law_544 rfl ⟨by omega, by omega, by omega⟩ ?_
  refine x_cVI (pc := 545) dL_law_545 lk_L_72 (c_mo_fewest hL1 hF1 q1 (hsc (i + 1))) k_127 ⟨by decide, rfl⟩ (hL1 127 (by decide) (by decide)) ⟨by decide, by decide⟩ (Nat.le_of_ble_eq_true rfl) rfl ?_
  rintro y G2 h2
  obtain ⟨hy, k2, hF2⟩ := h2
  refine x_ceqS (tgt := 1091) (pc := 548) dL_law_548 (by decide) (zFw_fn hx hy) ?_
  have kk : FM (z_fT ++ z_cS) z_cF G G2 := (k1.fm.mono (fun i w => List.mem_append_left _ w) (fun _ w => w)).tr (k2.mono (fun i w => List.mem_append_right _ w) (fun _ w => w))
  exact next _ _ _ _ ⟨(inv.1.k kk (by decide +kernel) (by decide +kernel)), (⟨m, S, I, lo, hi, mk, cEq.FR hEc kk.fr (by decide), hEm.Fk kk (by decide) (by decide) (by decide) (by decide), cBd.FR hBc kk.fr (by decide) (by decide) (by decide), hBm.Fk kk (by decide) (by decide) (by decide), (hU.gr g).FR kk.fr (by decide) (by decide) (by decide) (by decide), hC1.FR (fun _ w => w) (fun _ w => Or.inl w) k2.fr (by decide)⟩), (inv.2.2.1.k kk (by decide +kernel)), (inv.2.2.2.1.k kk (by decide +kernel)), (inv.2.2.2.2.1.k kk (by decide +kernel)), (inv.2.2.2.2.2.1.k kk (by decide +kernel) (by decide +kernel)), ((hA.gr g).FR kk.fr (by decide)), hF2, hL1⟩ b1
theorem w_ring {i N r k n : Nat} {sc : Nat → Int} {L : List Nat} {G : Nat → Nat → Int} (hN : N ≤ 2560) (hi : i + 5 ≤ N) (hsc : zSc sc) (inv : zInv L G) (bu : zBu (r + 1) L k n) (next : zNx i r N sc) : X (mL_law N sc) 10 600000 7302250 qT 553 [some (vR 0), some (vR 1), some (vR 127), some (vI i)] [] L G k n := by
  have inv0 := inv
  obtain ⟨⟨n0, b, hTc, hTm⟩, ⟨m, S, I, lo, hi, mk, hEc, hEm, hBc, hBm, hU, hC⟩, ⟨tw, tn, hHc, hHm⟩, ⟨dn, dl, hDc, hDm⟩, ⟨pn, pl, hPc, hPm⟩, ⟨s, sn, sl, hSc, hSm, hO⟩, hA, hF, hL⟩ := inv0
  refine x_aloadn (pc := 553) dL_law_553 rfl ?_
  refine x_aloadn (pc := 554) dL_law_554 rfl ?_
  refine x_iloadn (pc := 555) dL_law_555 rfl ?_
  refine x_iconst (pc := 556) dL_law_556 ?_
  refine x_iadd (pc := 557) dL_law_557 ?_
  refine x_sld (N := N) (i + 1) (pc := 558) dL_law_558 rfl ⟨by omega, by omega, by omega⟩ ?_
  refine x_cChain (pc := 559) hL hEc.2.1 bu dL_law_559 lk_L_73 (fun mc ms hq => c_ts_ring (mc := mc) (ms := ms) hL hF hEc hC (hsc (i + 1)) hq) rfl ⟨by decide, by decide⟩ rfl (fun x L1 G1 k9 n9 hx g hL1 hC1 k1 hF1 b1 => ?_)
  have q1 := hEm.Fk (F := []) k1.fm (by decide) (by decide) (by decide) (by decide)
  refine x_aloadn (pc := 562) dL_law_562 rfl ?_
  refine x_aloadn (pc := 563) dL_law_563 rfl ?_
  refine x_iloadn (pc := 564) dL_law_564 rfl ?_
  refine x_iconst (pc := 565) dL_law_565 ?_
  refine x_iadd (pc := 566) dL_law_566 ?_
  refine x_sld (N := N) (i + 1) (pc := 567) dL_law_567 rfl ⟨by omega, by omega, by omega⟩ ?_
  refine x_cVI (pc := 568) dL_law_568 lk_L_76 (c_mo_ring hL1 hF1 q1 (hsc (i + 1))) k_127 ⟨by decide, rfl⟩ (hL1 127 (by decide) (by decide)) ⟨by decide, by decide⟩ (Nat.le_of_ble_eq_true rfl) rfl ?_
  rintro y G2 h2
  obtain ⟨hy, k2, hF2⟩ := h2
  refine x_ceqS (tgt := 1091) (pc := 571) dL_law_571 (by decide) (zRi_fn hx hy) ?_
  have kk : FM (z_fT ++ z_cS2) z_cF G G2 := (k1.fm.mono (fun i w => List.mem_append_left _ w) (fun _ w => w)).tr (k2.mono (fun i w => List.mem_append_right _ w) (fun _ w => w))
  exact next _ _ _ _ ⟨(inv.1.k kk (by decide +kernel) (by decide +kernel)), (⟨m, S, I, lo, hi, mk, cEq.FR hEc kk.fr (by decide), hEm.Fk kk (by decide) (by decide) (by decide) (by decide), cBd.FR hBc kk.fr (by decide) (by decide) (by decide), hBm.Fk kk (by decide) (by decide) (by decide), (hU.gr g).FR kk.fr (by decide) (by decide) (by decide) (by decide), hC1.FR (fun _ w => w) (fun _ w => Or.inl w) k2.fr (by decide)⟩), (inv.2.2.1.k kk (by decide +kernel)), (inv.2.2.2.1.k kk (by decide +kernel)), (inv.2.2.2.2.1.k kk (by decide +kernel)), (inv.2.2.2.2.2.1.k kk (by decide +kernel) (by decide +kernel)), ((hA.gr g).FR kk.fr (by decide)), hF2, hL1⟩ b1
theorem w_putting {i N r k n : Nat} {sc : Nat → Int} {L : List Nat} {G : Nat → Nat → Int} (hN : N ≤ 2560) (hi : i + 5 ≤ N) (hsc : zSc sc) (inv : zInv L G) (bu : zBu (r + 1) L k n) (next : zNx i r N sc) : X (mL_law N sc) 10 600000 7302250 qT 576 [some (vR 0), some (vR 1), some (vR 127), some (vI i)] [] L G k n := by
  have inv0 := inv
  obtain ⟨⟨n0, b, hTc, hTm⟩, ⟨m, S, I, lo, hi, mk, hEc, hEm, hBc, hBm, hU, hC⟩, ⟨tw, tn, hHc, hHm⟩, ⟨dn, dl, hDc, hDm⟩, ⟨pn, pl, hPc, hPm⟩, ⟨s, sn, sl, hSc, hSm, hO⟩, hA, hF, hL⟩ := inv0
  refine x_aloadn (pc := 576) dL_law_576 rfl ?_
  refine x_aloadn (pc := 577) dL_law_577 rfl ?_
  refine x_iloadn (pc := 578) dL_law_578 rfl ?_
  refine x_iconst (pc := 579) dL_law_579 ?_
  refine x_iadd (pc := 580) dL_law_580 ?_
  refine x_sld (N := N) (i + 1) (pc := 581) dL_law_581 rfl ⟨by omega, by omega, by omega⟩ ?_
  refine x_aloadn (pc := 582) dL_law_582 rfl ?_
  refine x_iloadn (pc := 583) dL_law_583 rfl ?_
  refine x_iconst (pc := 584) dL_law_584 ?_
  refine x_iadd (pc := 585) dL_law_585 ?_
  refine x_sld (N := N) (i + 2) (pc := 586) dL_law_586 rfl ⟨by omega, by omega, by omega⟩ ?_
  refine x_cChain (pc := 587) hL hEc.2.1 bu dL_law_587 lk_L_77 (fun mc ms hq => c_ts_putting (mc := mc) (ms := ms) hL hF hEc hC (hsc (i + 1)) (hsc (i + 2)) hq) rfl ⟨by decide, by decide⟩ rfl (fun x L1 G1 k9 n9 hx g hL1 hC1 k1 hF1 b1 => ?_)
  have q1 := hEm.Fk (F := []) k1.fm (by decide) (by decide) (by decide) (by decide)
  refine x_aloadn (pc := 590) dL_law_590 rfl ?_
  refine x_aloadn (pc := 591) dL_law_591 rfl ?_
  refine x_iloadn (pc := 592) dL_law_592 rfl ?_
  refine x_iconst (pc := 593) dL_law_593 ?_
  refine x_iadd (pc := 594) dL_law_594 ?_
  refine x_sld (N := N) (i + 1) (pc := 595) dL_law_595 rfl ⟨by omega, by omega, by omega⟩ ?_
  refine x_aloadn (pc := 596) dL_law_596 rfl ?_
  refine x_iloadn (pc := 597) dL_law_597 rfl ?_
  refine x_iconst (pc := 598) dL_law_598 ?_
  refine x_iadd (pc := 599) dL_law_599 ?_
  refine x_sld (N := N) (i + 2) (pc := 600) dL_law_600 rfl ⟨by omega, by omega, by omega⟩ ?_
  refine x_cVI (pc := 601) dL_law_601 lk_L_80 (c_mo_putting hL1 hF1 q1 (hsc (i + 1)) (hsc (i + 2))) k_127 ⟨by decide, rfl⟩ (hL1 127 (by decide) (by decide)) ⟨by decide, by decide⟩ (Nat.le_of_ble_eq_true rfl) rfl ?_
  rintro y G2 h2
  obtain ⟨hy, k2, hF2⟩ := h2
  refine x_ceqS (tgt := 1091) (pc := 604) dL_law_604 (by decide) (zPu_fn hx hy) ?_
  have kk : FM (z_fT ++ z_cS2) z_cF G G2 := (k1.fm.mono (fun i w => List.mem_append_left _ w) (fun _ w => w)).tr (k2.mono (fun i w => List.mem_append_right _ w) (fun _ w => w))
  exact next _ _ _ _ ⟨(inv.1.k kk (by decide +kernel) (by decide +kernel)), (⟨m, S, I, lo, hi, mk, cEq.FR hEc kk.fr (by decide), hEm.Fk kk (by decide) (by decide) (by decide) (by decide), cBd.FR hBc kk.fr (by decide) (by decide) (by decide), hBm.Fk kk (by decide) (by decide) (by decide), (hU.gr g).FR kk.fr (by decide) (by decide) (by decide) (by decide), hC1.FR (fun _ w => w) (fun _ w => Or.inl w) k2.fr (by decide)⟩), (inv.2.2.1.k kk (by decide +kernel)), (inv.2.2.2.1.k kk (by decide +kernel)), (inv.2.2.2.2.1.k kk (by decide +kernel)), (inv.2.2.2.2.2.1.k kk (by decide +kernel) (by decide +kernel)), ((hA.gr g).FR kk.fr (by decide)), hF2, hL1⟩ b1
theorem w_found {i N r k n : Nat} {sc : Nat → Int} {L : List Nat} {G : Nat → Nat → Int} (hN : N ≤ 2560) (hi : i + 5 ≤ N) (hsc : zSc sc) (inv : zInv L G) (bu : zBu (r + 1) L k n) (next : zNx i r N sc) : X (mL_law N sc) 10 600000 7302250 qT 609 [some (vR 0), some (vR 1), some (vR 127), some (vI i)] [] L G k n := by
  have inv0 := inv
  obtain ⟨⟨n0, b, hTc, hTm⟩, ⟨m, S, I, lo, hi, mk, hEc, hEm, hBc, hBm, hU, hC⟩, ⟨tw, tn, hHc, hHm⟩, ⟨dn, dl, hDc, hDm⟩, ⟨pn, pl, hPc, hPm⟩, ⟨s, sn, sl, hSc, hSm, hO⟩, hA, hF, hL⟩ := inv0
  refine x_aloadn (pc := 609) dL_law_609 rfl ?_
  refine x_aloadn (pc := 610) dL_law_610 rfl ?_
  refine x_iloadn (pc := 611) dL_law_611 rfl ?_
  refine x_iconst (pc := 612) dL_law_612 ?_
  refine x_iadd (pc := 613) dL_law_613 ?_
  refine x_sld (N := N) (i + 1) (pc := 614) dL_law_614 rfl ⟨by omega, by omega, by omega⟩ ?_
  refine x_aloadn (pc := 615) dL_law_615 rfl ?_
  refine x_iloadn (pc := 616) dL_law_616 rfl ?_
  refine x_iconst (pc := 617) dL_law_617 ?_
  refine x_iadd (pc := 618) dL_law_618 ?_
  refine x_sld (N := N) (i + 2) (pc := 619) dL_law_619 rfl ⟨by omega, by omega, by omega⟩ ?_
  refine x_aloadn (pc := 620) dL_law_620 rfl ?_
  refine x_iloadn (pc := 621) dL_law_621 rfl ?_
  refine x_iconst (pc := 622) dL_law_622 ?_
  refine x_iadd (pc := 623) dL_law_623 ?_
  refine x_sld (N := N) (i + 3) (pc := 624) dL_law_624 rfl ⟨by omega, by omega, by omega⟩ ?_
  refine x_cChain (pc := 625) hL hEc.2.1 bu dL_law_625 lk_L_81 (fun mc ms hq => c_ts_found (mc := mc) (ms := ms) hL hF hEc hC (hsc (i + 1)) (hsc (i + 2)) (hsc (i + 3)) hq) rfl ⟨by decide, by decide⟩ rfl (fun x L1 G1 k9 n9 hx g hL1 hC1 k1 hF1 b1 => ?_)
  have q1 := hEm.Fk (F := []) k1.fm (by decide) (by decide) (by decide) (by decide)
  refine x_aloadn (pc := 628) dL_law_628 rfl ?_
  refine x_aloadn (pc := 629) dL_law_629 rfl ?_
  refine x_iloadn (pc := 630) dL_law_630 rfl ?_
  refine x_iconst (pc := 631) dL_law_631 ?_
  refine x_iadd (pc := 632) dL_law_632 ?_
  refine x_sld (N := N) (i + 1) (pc := 633) dL_law_633 rfl ⟨by omega, by omega, by omega⟩ ?_
  refine x_aloadn (pc := 634) dL_law_634 rfl ?_
  refine x_iloadn (pc := 635) dL_law_635 rfl ?_
  refine x_iconst (pc := 636) dL_law_636 ?_
  refine x_iadd (pc := 637) dL_law_637 ?_
  refine x_sld (N := N) (i + 2) (pc := 638) dL_law_638 rfl ⟨by omega, by omega, by omega⟩ ?_
  refine x_aloadn (pc := 639) dL_law_639 rfl ?_
  refine x_iloadn (pc := 640) dL_law_640 rfl ?_
  refine x_iconst (pc := 641) dL_law_641 ?_
  refine x_iadd (pc := 642) dL_law_642 ?_
  refine x_sld (N := N) (i + 3) (pc := 643) dL_law_643 rfl ⟨by omega, by omega, by omega⟩ ?_
  refine x_cVI (pc := 644) dL_law_644 lk_L_84 (c_mo_found hL1 hF1 q1 (hsc (i + 1)) (hsc (i + 2)) (hsc (i + 3))) k_127 ⟨by decide, rfl⟩ (hL1 127 (by decide) (by decide)) ⟨by decide, by decide⟩ (Nat.le_of_ble_eq_true rfl) rfl ?_
  rintro y G2 h2
  obtain ⟨hy, k2, hF2⟩ := h2
  refine x_ceqS (tgt := 1091) (pc := 647) dL_law_647 (by decide) (zFo_fn hx hy) ?_
  have kk : FM (z_fT ++ z_cS2) z_cF G G2 := (k1.fm.mono (fun i w => List.mem_append_left _ w) (fun _ w => w)).tr (k2.mono (fun i w => List.mem_append_right _ w) (fun _ w => w))
  exact next _ _ _ _ ⟨(inv.1.k kk (by decide +kernel) (by decide +kernel)), (⟨m, S, I, lo, hi, mk, cEq.FR hEc kk.fr (by decide), hEm.Fk kk (by decide) (by decide) (by decide) (by decide), cBd.FR hBc kk.fr (by decide) (by decide) (by decide), hBm.Fk kk (by decide) (by decide) (by decide), (hU.gr g).FR kk.fr (by decide) (by decide) (by decide) (by decide), hC1.FR (fun _ w => w) (fun _ w => Or.inl w) k2.fr (by decide)⟩), (inv.2.2.1.k kk (by decide +kernel)), (inv.2.2.2.1.k kk (by decide +kernel)), (inv.2.2.2.2.1.k kk (by decide +kernel)), (inv.2.2.2.2.2.1.k kk (by decide +kernel) (by decide +kernel)), ((hA.gr g).FR kk.fr (by decide)), hF2, hL1⟩ b1

