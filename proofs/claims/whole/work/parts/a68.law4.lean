/-! the law: word, of, part, agree, turned, classes, pattern -/
theorem w_word {i N r k n : Nat} {sc : Nat → Int} {L : List Nat} {G : Nat → Nat → Int} (hN : N ≤ 2560) (hi : i + 5 ≤ N) (hsc : zSc sc) (inv : zInv L G) (bu : zBu (r + 1) L k n) (next : zNx i r N sc) : X (mL_law N sc) 10 600000 7302250 qT 652 [some (vR 0), some (vR 1), some (vR 127), some (vI i)] [] L G k n := by
  have inv0 := inv
  obtain ⟨⟨n0, b, hTc, hTm⟩, ⟨m, S, I, lo, hi, mk, hEc, hEm, hBc, hBm, hU, hC⟩, ⟨tw, tn, hHc, hHm⟩, ⟨dn, dl, hDc, hDm⟩, ⟨pn, pl, hPc, hPm⟩, ⟨s, sn, sl, hSc, hSm, hO⟩, hA, hF, hL⟩ := inv0
  refine x_aloadn (pc := 652) dL_law_652 rfl ?_
  refine x_aloadn (pc := 653) dL_law_653 rfl ?_
  refine x_iloadn (pc := 654) dL_law_654 rfl ?_
  refine x_iconst (pc := 655) dL_law_655 ?_
  refine x_iadd (pc := 656) dL_law_656 ?_
  refine x_sld (N := N) (i + 1) (pc := 657) dL_law_657 rfl ⟨by omega, by omega, by omega⟩ ?_
  refine x_aloadn (pc := 658) dL_law_658 rfl ?_
  refine x_iloadn (pc := 659) dL_law_659 rfl ?_
  refine x_iconst (pc := 660) dL_law_660 ?_
  refine x_iadd (pc := 661) dL_law_661 ?_
  refine x_sld (N := N) (i + 2) (pc := 662) dL_law_662 rfl ⟨by omega, by omega, by omega⟩ ?_
  refine x_i2l (pc := 663) dL_law_663 (hsc _) ?_
  refine x_bipush (pc := 664) dL_law_664 (by decide) ?_
  refine x_lshl (pc := 666) dL_law_666 32 (by decide) (by decide) ?_
  refine x_aloadn (pc := 667) dL_law_667 rfl ?_
  refine x_iloadn (pc := 668) dL_law_668 rfl ?_
  refine x_iconst (pc := 669) dL_law_669 ?_
  refine x_iadd (pc := 670) dL_law_670 ?_
  refine x_sld (N := N) (i + 3) (pc := 671) dL_law_671 rfl ⟨by omega, by omega, by omega⟩ ?_
  refine x_i2l (pc := 672) dL_law_672 (hsc _) ?_
  refine x_ldc2 (pc := 673) dL_law_673 co_L_13 ?_
  refine x_landm (pc := 676) dL_law_676 32 4294967296 (by decide) (by decide) (by decide) ?_
  refine x_lorD (pc := 677) dL_law_677 ?_
  refine x_aloadn (pc := 678) dL_law_678 rfl ?_
  refine x_iloadn (pc := 679) dL_law_679 rfl ?_
  refine x_iconst (pc := 680) dL_law_680 ?_
  refine x_iadd (pc := 681) dL_law_681 ?_
  refine x_sld (N := N) (i + 4) (pc := 682) dL_law_682 rfl ⟨by omega, by omega, by omega⟩ ?_
  refine x_cVI (pc := 683) dL_law_683 lk_L_85 (c_ts_word2 hL hF hDc (hsc (i + 1)) (zlo_bd _ _) (hsc (i + 4))) k_1 ⟨by decide, rfl⟩ (hL 1 (by decide) (by decide)) ⟨by decide, by decide⟩ (Nat.le_of_ble_eq_true rfl) rfl ?_
  rintro x G1 h1
  rcases h1 with ⟨g1, hx, e1⟩ | ⟨g1, g2, hx, e1⟩ | ⟨g1, g2, hx, c1, k1, hF1⟩
  · skip
    obtain rfl := e1.symm
    refine x_aloadn (pc := 686) dL_law_686 rfl ?_
    refine x_aloadn (pc := 687) dL_law_687 rfl ?_
    refine x_iloadn (pc := 688) dL_law_688 rfl ?_
    refine x_iconst (pc := 689) dL_law_689 ?_
    refine x_iadd (pc := 690) dL_law_690 ?_
    refine x_sld (N := N) (i + 1) (pc := 691) dL_law_691 rfl ⟨by omega, by omega, by omega⟩ ?_
    refine x_aloadn (pc := 692) dL_law_692 rfl ?_
    refine x_iloadn (pc := 693) dL_law_693 rfl ?_
    refine x_iconst (pc := 694) dL_law_694 ?_
    refine x_iadd (pc := 695) dL_law_695 ?_
    refine x_sld (N := N) (i + 2) (pc := 696) dL_law_696 rfl ⟨by omega, by omega, by omega⟩ ?_
    refine x_i2l (pc := 697) dL_law_697 (hsc _) ?_
    refine x_bipush (pc := 698) dL_law_698 (by decide) ?_
    refine x_lshl (pc := 700) dL_law_700 32 (by decide) (by decide) ?_
    refine x_aloadn (pc := 701) dL_law_701 rfl ?_
    refine x_iloadn (pc := 702) dL_law_702 rfl ?_
    refine x_iconst (pc := 703) dL_law_703 ?_
    refine x_iadd (pc := 704) dL_law_704 ?_
    refine x_sld (N := N) (i + 3) (pc := 705) dL_law_705 rfl ⟨by omega, by omega, by omega⟩ ?_
    refine x_i2l (pc := 706) dL_law_706 (hsc _) ?_
    refine x_ldc2 (pc := 707) dL_law_707 co_L_13 ?_
    refine x_landm (pc := 710) dL_law_710 32 4294967296 (by decide) (by decide) (by decide) ?_
    refine x_lorD (pc := 711) dL_law_711 ?_
    refine x_aloadn (pc := 712) dL_law_712 rfl ?_
    refine x_iloadn (pc := 713) dL_law_713 rfl ?_
    refine x_iconst (pc := 714) dL_law_714 ?_
    refine x_iadd (pc := 715) dL_law_715 ?_
    refine x_sld (N := N) (i + 4) (pc := 716) dL_law_716 rfl ⟨by omega, by omega, by omega⟩ ?_
    refine x_cVI (pc := 717) dL_law_717 lk_L_89 (c_mo_word hL hF hDm (hsc (i + 1)) (zlo_bd _ _) (hsc (i + 4))) k_127 ⟨by decide, rfl⟩ (hL 127 (by decide) (by decide)) ⟨by decide, by decide⟩ (Nat.le_of_ble_eq_true rfl) rfl ?_
    rintro y G2 h2
    rcases h2 with ⟨g3, hy, e2⟩ | ⟨g3, g4, hy, e2⟩ | ⟨g3, g4, hy, m1, k2, hF2⟩
    · skip
      obtain rfl := e2.symm
      refine x_ceqS (tgt := 1091) (pc := 720) dL_law_720 (by decide) (hx.trans hy.symm) ?_
      exact next _ _ _ _ inv bu.st
    · skip
      first | exact absurd g3 g1 | exact absurd g1 g3 | exact absurd g4 g2 | exact absurd g2 g4 | exact absurd g3 g1.1 | (exfalso; omega)
    · skip
      first | exact absurd g3 g1 | exact absurd g1 g3 | exact absurd g4 g2 | exact absurd g2 g4 | exact absurd g3 g1.1 | (exfalso; omega)
  · skip
    obtain rfl := e1.symm
    refine x_aloadn (pc := 686) dL_law_686 rfl ?_
    refine x_aloadn (pc := 687) dL_law_687 rfl ?_
    refine x_iloadn (pc := 688) dL_law_688 rfl ?_
    refine x_iconst (pc := 689) dL_law_689 ?_
    refine x_iadd (pc := 690) dL_law_690 ?_
    refine x_sld (N := N) (i + 1) (pc := 691) dL_law_691 rfl ⟨by omega, by omega, by omega⟩ ?_
    refine x_aloadn (pc := 692) dL_law_692 rfl ?_
    refine x_iloadn (pc := 693) dL_law_693 rfl ?_
    refine x_iconst (pc := 694) dL_law_694 ?_
    refine x_iadd (pc := 695) dL_law_695 ?_
    refine x_sld (N := N) (i + 2) (pc := 696) dL_law_696 rfl ⟨by omega, by omega, by omega⟩ ?_
    refine x_i2l (pc := 697) dL_law_697 (hsc _) ?_
    refine x_bipush (pc := 698) dL_law_698 (by decide) ?_
    refine x_lshl (pc := 700) dL_law_700 32 (by decide) (by decide) ?_
    refine x_aloadn (pc := 701) dL_law_701 rfl ?_
    refine x_iloadn (pc := 702) dL_law_702 rfl ?_
    refine x_iconst (pc := 703) dL_law_703 ?_
    refine x_iadd (pc := 704) dL_law_704 ?_
    refine x_sld (N := N) (i + 3) (pc := 705) dL_law_705 rfl ⟨by omega, by omega, by omega⟩ ?_
    refine x_i2l (pc := 706) dL_law_706 (hsc _) ?_
    refine x_ldc2 (pc := 707) dL_law_707 co_L_13 ?_
    refine x_landm (pc := 710) dL_law_710 32 4294967296 (by decide) (by decide) (by decide) ?_
    refine x_lorD (pc := 711) dL_law_711 ?_
    refine x_aloadn (pc := 712) dL_law_712 rfl ?_
    refine x_iloadn (pc := 713) dL_law_713 rfl ?_
    refine x_iconst (pc := 714) dL_law_714 ?_
    refine x_iadd (pc := 715) dL_law_715 ?_
    refine x_sld (N := N) (i + 4) (pc := 716) dL_law_716 rfl ⟨by omega, by omega, by omega⟩ ?_
    refine x_cVI (pc := 717) dL_law_717 lk_L_89 (c_mo_word hL hF hDm (hsc (i + 1)) (zlo_bd _ _) (hsc (i + 4))) k_127 ⟨by decide, rfl⟩ (hL 127 (by decide) (by decide)) ⟨by decide, by decide⟩ (Nat.le_of_ble_eq_true rfl) rfl ?_
    rintro y G2 h2
    rcases h2 with ⟨g3, hy, e2⟩ | ⟨g3, g4, hy, e2⟩ | ⟨g3, g4, hy, m1, k2, hF2⟩
    · skip
      first | exact absurd g3 g1 | exact absurd g1 g3 | exact absurd g4 g2 | exact absurd g2 g4 | exact absurd g3 g1.1 | (exfalso; omega)
    · skip
      obtain rfl := e2.symm
      refine x_ceqS (tgt := 1091) (pc := 720) dL_law_720 (by decide) (hx.trans hy.symm) ?_
      exact next _ _ _ _ inv bu.st
    · skip
      first | exact absurd g3 g1 | exact absurd g1 g3 | exact absurd g4 g2 | exact absurd g2 g4 | exact absurd g3 g1.1 | (exfalso; omega)
  · skip
    have q1 := hDm.Fk (F := []) k1.fm (by decide) (by decide)
    refine x_aloadn (pc := 686) dL_law_686 rfl ?_
    refine x_aloadn (pc := 687) dL_law_687 rfl ?_
    refine x_iloadn (pc := 688) dL_law_688 rfl ?_
    refine x_iconst (pc := 689) dL_law_689 ?_
    refine x_iadd (pc := 690) dL_law_690 ?_
    refine x_sld (N := N) (i + 1) (pc := 691) dL_law_691 rfl ⟨by omega, by omega, by omega⟩ ?_
    refine x_aloadn (pc := 692) dL_law_692 rfl ?_
    refine x_iloadn (pc := 693) dL_law_693 rfl ?_
    refine x_iconst (pc := 694) dL_law_694 ?_
    refine x_iadd (pc := 695) dL_law_695 ?_
    refine x_sld (N := N) (i + 2) (pc := 696) dL_law_696 rfl ⟨by omega, by omega, by omega⟩ ?_
    refine x_i2l (pc := 697) dL_law_697 (hsc _) ?_
    refine x_bipush (pc := 698) dL_law_698 (by decide) ?_
    refine x_lshl (pc := 700) dL_law_700 32 (by decide) (by decide) ?_
    refine x_aloadn (pc := 701) dL_law_701 rfl ?_
    refine x_iloadn (pc := 702) dL_law_702 rfl ?_
    refine x_iconst (pc := 703) dL_law_703 ?_
    refine x_iadd (pc := 704) dL_law_704 ?_
    refine x_sld (N := N) (i + 3) (pc := 705) dL_law_705 rfl ⟨by omega, by omega, by omega⟩ ?_
    refine x_i2l (pc := 706) dL_law_706 (hsc _) ?_
    refine x_ldc2 (pc := 707) dL_law_707 co_L_13 ?_
    refine x_landm (pc := 710) dL_law_710 32 4294967296 (by decide) (by decide) (by decide) ?_
    refine x_lorD (pc := 711) dL_law_711 ?_
    refine x_aloadn (pc := 712) dL_law_712 rfl ?_
    refine x_iloadn (pc := 713) dL_law_713 rfl ?_
    refine x_iconst (pc := 714) dL_law_714 ?_
    refine x_iadd (pc := 715) dL_law_715 ?_
    refine x_sld (N := N) (i + 4) (pc := 716) dL_law_716 rfl ⟨by omega, by omega, by omega⟩ ?_
    refine x_cVI (pc := 717) dL_law_717 lk_L_89 (c_mo_word hL hF1 q1 (hsc (i + 1)) (zlo_bd _ _) (hsc (i + 4))) k_127 ⟨by decide, rfl⟩ (hL 127 (by decide) (by decide)) ⟨by decide, by decide⟩ (Nat.le_of_ble_eq_true rfl) rfl ?_
    rintro y G2 h2
    rcases h2 with ⟨g3, hy, e2⟩ | ⟨g3, g4, hy, e2⟩ | ⟨g3, g4, hy, m1, k2, hF2⟩
    · skip
      first | exact absurd g3 g1 | exact absurd g1 g3 | exact absurd g4 g2 | exact absurd g2 g4 | exact absurd g3 g1.1 | (exfalso; omega)
    · skip
      first | exact absurd g3 g1 | exact absurd g1 g3 | exact absurd g4 g2 | exact absurd g2 g4 | exact absurd g3 g1.1 | (exfalso; omega)
    · skip
      refine x_ceqS (tgt := 1091) (pc := 720) dL_law_720 (by decide) (hx.trans hy.symm) ?_
      have kk : FM (z_dkS ++ [136, 137]) [] G G2 := (k1.fm.mono (fun i w => List.mem_append_left _ w) (fun _ w => w)).tr (k2.mono (fun i w => List.mem_append_right _ w) (fun _ w => w))
      exact next _ _ _ _ ⟨(inv.1.k kk (by decide +kernel) (by decide +kernel)), (inv.2.1.k kk (by decide +kernel) (by decide +kernel)), (inv.2.2.1.k kk (by decide +kernel)), (⟨_, _, c1.FR k2.fr (by decide), m1⟩), (inv.2.2.2.2.1.k kk (by decide +kernel)), (inv.2.2.2.2.2.1.k kk (by decide +kernel) (by decide +kernel)), (hA.FR kk.fr (by decide +kernel)), hF2, hL⟩ bu.st
theorem w_of {i N r k n : Nat} {sc : Nat → Int} {L : List Nat} {G : Nat → Nat → Int} (hN : N ≤ 2560) (hi : i + 5 ≤ N) (hsc : zSc sc) (inv : zInv L G) (bu : zBu (r + 1) L k n) (next : zNx i r N sc) : X (mL_law N sc) 10 600000 7302250 qT 725 [some (vR 0), some (vR 1), some (vR 127), some (vI i)] [] L G k n := by
  have inv0 := inv
  obtain ⟨⟨n0, b, hTc, hTm⟩, ⟨m, S, I, lo, hi, mk, hEc, hEm, hBc, hBm, hU, hC⟩, ⟨tw, tn, hHc, hHm⟩, ⟨dn, dl, hDc, hDm⟩, ⟨pn, pl, hPc, hPm⟩, ⟨s, sn, sl, hSc, hSm, hO⟩, hA, hF, hL⟩ := inv0
  refine x_aloadn (pc := 725) dL_law_725 rfl ?_
  refine x_aloadn (pc := 726) dL_law_726 rfl ?_
  refine x_iloadn (pc := 727) dL_law_727 rfl ?_
  refine x_iconst (pc := 728) dL_law_728 ?_
  refine x_iadd (pc := 729) dL_law_729 ?_
  refine x_sld (N := N) (i + 1) (pc := 730) dL_law_730 rfl ⟨by omega, by omega, by omega⟩ ?_
  refine x_aloadn (pc := 731) dL_law_731 rfl ?_
  refine x_iloadn (pc := 732) dL_law_732 rfl ?_
  refine x_iconst (pc := 733) dL_law_733 ?_
  refine x_iadd (pc := 734) dL_law_734 ?_
  refine x_sld (N := N) (i + 2) (pc := 735) dL_law_735 rfl ⟨by omega, by omega, by omega⟩ ?_
  refine x_cVI (pc := 736) dL_law_736 lk_L_90 (c_ts_of hL hF hDc (hsc (i + 1)) (hsc (i + 2))) k_1 ⟨by decide, rfl⟩ (hL 1 (by decide) (by decide)) ⟨by decide, by decide⟩ (Nat.le_of_ble_eq_true rfl) rfl ?_
  rintro x G1 h1
  obtain ⟨hx, e1⟩ := h1
  obtain rfl := e1.symm
  refine x_aloadn (pc := 739) dL_law_739 rfl ?_
  refine x_aloadn (pc := 740) dL_law_740 rfl ?_
  refine x_iloadn (pc := 741) dL_law_741 rfl ?_
  refine x_iconst (pc := 742) dL_law_742 ?_
  refine x_iadd (pc := 743) dL_law_743 ?_
  refine x_sld (N := N) (i + 1) (pc := 744) dL_law_744 rfl ⟨by omega, by omega, by omega⟩ ?_
  refine x_aloadn (pc := 745) dL_law_745 rfl ?_
  refine x_iloadn (pc := 746) dL_law_746 rfl ?_
  refine x_iconst (pc := 747) dL_law_747 ?_
  refine x_iadd (pc := 748) dL_law_748 ?_
  refine x_sld (N := N) (i + 2) (pc := 749) dL_law_749 rfl ⟨by omega, by omega, by omega⟩ ?_
  refine x_cVI (pc := 750) dL_law_750 lk_L_93 (c_mo_of hL hF hDm (hsc (i + 1)) (hsc (i + 2))) k_127 ⟨by decide, rfl⟩ (hL 127 (by decide) (by decide)) ⟨by decide, by decide⟩ (Nat.le_of_ble_eq_true rfl) rfl ?_
  rintro y G2 h2
  obtain ⟨hy, e2⟩ := h2
  obtain rfl := e2.symm
  refine x_ceqS (tgt := 1091) (pc := 753) dL_law_753 (by decide) ((by rw [hx, hy]; by_cases c : 0 ≤ sc (i + 1) ∧ sc (i + 1) < 4; rw [if_pos c, if_neg (fun w => w c)]; rw [if_neg c, if_pos c])) ?_
  exact next _ _ _ _ inv bu.st
theorem w_part {i N r k n : Nat} {sc : Nat → Int} {L : List Nat} {G : Nat → Nat → Int} (hN : N ≤ 2560) (hi : i + 5 ≤ N) (hsc : zSc sc) (inv : zInv L G) (bu : zBu (r + 1) L k n) (next : zNx i r N sc) : X (mL_law N sc) 10 600000 7302250 qT 758 [some (vR 0), some (vR 1), some (vR 127), some (vI i)] [] L G k n := by
  have inv0 := inv
  obtain ⟨⟨n0, b, hTc, hTm⟩, ⟨m, S, I, lo, hi, mk, hEc, hEm, hBc, hBm, hU, hC⟩, ⟨tw, tn, hHc, hHm⟩, ⟨dn, dl, hDc, hDm⟩, ⟨pn, pl, hPc, hPm⟩, ⟨s, sn, sl, hSc, hSm, hO⟩, hA, hF, hL⟩ := inv0
  refine x_aloadn (pc := 758) dL_law_758 rfl ?_
  refine x_aloadn (pc := 759) dL_law_759 rfl ?_
  refine x_iloadn (pc := 760) dL_law_760 rfl ?_
  refine x_iconst (pc := 761) dL_law_761 ?_
  refine x_iadd (pc := 762) dL_law_762 ?_
  refine x_sld (N := N) (i + 1) (pc := 763) dL_law_763 rfl ⟨by omega, by omega, by omega⟩ ?_
  refine x_aloadn (pc := 764) dL_law_764 rfl ?_
  refine x_iloadn (pc := 765) dL_law_765 rfl ?_
  refine x_iconst (pc := 766) dL_law_766 ?_
  refine x_iadd (pc := 767) dL_law_767 ?_
  refine x_sld (N := N) (i + 2) (pc := 768) dL_law_768 rfl ⟨by omega, by omega, by omega⟩ ?_
  refine x_cVI (pc := 769) dL_law_769 lk_L_94 (c_ts_part hL hF hDc (hsc (i + 1)) (hsc (i + 2))) k_1 ⟨by decide, rfl⟩ (hL 1 (by decide) (by decide)) ⟨by decide, by decide⟩ (Nat.le_of_ble_eq_true rfl) rfl ?_
  rintro x G1 h1
  obtain ⟨hx, e1⟩ := h1
  obtain rfl := e1.symm
  refine x_aloadn (pc := 772) dL_law_772 rfl ?_
  refine x_aloadn (pc := 773) dL_law_773 rfl ?_
  refine x_iloadn (pc := 774) dL_law_774 rfl ?_
  refine x_iconst (pc := 775) dL_law_775 ?_
  refine x_iadd (pc := 776) dL_law_776 ?_
  refine x_sld (N := N) (i + 1) (pc := 777) dL_law_777 rfl ⟨by omega, by omega, by omega⟩ ?_
  refine x_aloadn (pc := 778) dL_law_778 rfl ?_
  refine x_iloadn (pc := 779) dL_law_779 rfl ?_
  refine x_iconst (pc := 780) dL_law_780 ?_
  refine x_iadd (pc := 781) dL_law_781 ?_
  refine x_sld (N := N) (i + 2) (pc := 782) dL_law_782 rfl ⟨by omega, by omega, by omega⟩ ?_
  refine x_cVI (pc := 783) dL_law_783 lk_L_97 (c_mo_part hL hF hDm (hsc (i + 1)) (hsc (i + 2))) k_127 ⟨by decide, rfl⟩ (hL 127 (by decide) (by decide)) ⟨by decide, by decide⟩ (Nat.le_of_ble_eq_true rfl) rfl ?_
  rintro y G2 h2
  obtain ⟨hy, e2⟩ := h2
  obtain rfl := e2.symm
  refine x_ceqS (tgt := 1091) (pc := 786) dL_law_786 (by decide) (hx.trans hy.symm) ?_
  exact next _ _ _ _ inv bu.st
theorem w_agree {i N r k n : Nat} {sc : Nat → Int} {L : List Nat} {G : Nat → Nat → Int} (hN : N ≤ 2560) (hi : i + 5 ≤ N) (hsc : zSc sc) (inv : zInv L G) (bu : zBu (r + 1) L k n) (next : zNx i r N sc) : X (mL_law N sc) 10 600000 7302250 qT 791 [some (vR 0), some (vR 1), some (vR 127), some (vI i)] [] L G k n := by
  have inv0 := inv
  obtain ⟨⟨n0, b, hTc, hTm⟩, ⟨m, S, I, lo, hi, mk, hEc, hEm, hBc, hBm, hU, hC⟩, ⟨tw, tn, hHc, hHm⟩, ⟨dn, dl, hDc, hDm⟩, ⟨pn, pl, hPc, hPm⟩, ⟨s, sn, sl, hSc, hSm, hO⟩, hA, hF, hL⟩ := inv0
  refine x_aloadn (pc := 791) dL_law_791 rfl ?_
  refine x_aloadn (pc := 792) dL_law_792 rfl ?_
  refine x_iloadn (pc := 793) dL_law_793 rfl ?_
  refine x_iconst (pc := 794) dL_law_794 ?_
  refine x_iadd (pc := 795) dL_law_795 ?_
  refine x_sld (N := N) (i + 1) (pc := 796) dL_law_796 rfl ⟨by omega, by omega, by omega⟩ ?_
  refine x_aloadn (pc := 797) dL_law_797 rfl ?_
  refine x_iloadn (pc := 798) dL_law_798 rfl ?_
  refine x_iconst (pc := 799) dL_law_799 ?_
  refine x_iadd (pc := 800) dL_law_800 ?_
  refine x_sld (N := N) (i + 2) (pc := 801) dL_law_801 rfl ⟨by omega, by omega, by omega⟩ ?_
  refine x_cVI (pc := 802) dL_law_802 lk_L_98 (c_ts_agree hL hF hDc (hsc (i + 1)) (hsc (i + 2))) k_1 ⟨by decide, rfl⟩ (hL 1 (by decide) (by decide)) ⟨by decide, by decide⟩ (Nat.le_of_ble_eq_true rfl) rfl ?_
  rintro x G1 h1
  obtain ⟨hx, e1⟩ := h1
  obtain rfl := e1.symm
  refine x_aloadn (pc := 805) dL_law_805 rfl ?_
  refine x_aloadn (pc := 806) dL_law_806 rfl ?_
  refine x_iloadn (pc := 807) dL_law_807 rfl ?_
  refine x_iconst (pc := 808) dL_law_808 ?_
  refine x_iadd (pc := 809) dL_law_809 ?_
  refine x_sld (N := N) (i + 1) (pc := 810) dL_law_810 rfl ⟨by omega, by omega, by omega⟩ ?_
  refine x_aloadn (pc := 811) dL_law_811 rfl ?_
  refine x_iloadn (pc := 812) dL_law_812 rfl ?_
  refine x_iconst (pc := 813) dL_law_813 ?_
  refine x_iadd (pc := 814) dL_law_814 ?_
  refine x_sld (N := N) (i + 2) (pc := 815) dL_law_815 rfl ⟨by omega, by omega, by omega⟩ ?_
  refine x_cVI (pc := 816) dL_law_816 lk_L_101 (c_mo_agree hL hF hDm (hsc (i + 1)) (hsc (i + 2))) k_127 ⟨by decide, rfl⟩ (hL 127 (by decide) (by decide)) ⟨by decide, by decide⟩ (Nat.le_of_ble_eq_true rfl) rfl ?_
  rintro y G2 h2
  obtain ⟨hy, e2⟩ := h2
  obtain rfl := e2.symm
  refine x_ceqS (tgt := 1091) (pc := 819) dL_law_819 (by decide) (hx.trans hy.symm) ?_
  exact next _ _ _ _ inv bu.st
theorem w_turned {i N r k n : Nat} {sc : Nat → Int} {L : List Nat} {G : Nat → Nat → Int} (hN : N ≤ 2560) (hi : i + 5 ≤ N) (hsc : zSc sc) (inv : zInv L G) (bu : zBu (r + 1) L k n) (next : zNx i r N sc) : X (mL_law N sc) 10 600000 7302250 qT 824 [some (vR 0), some (vR 1), some (vR 127), some (vI i)] [] L G k n := by
  have inv0 := inv
  obtain ⟨⟨n0, b, hTc, hTm⟩, ⟨m, S, I, lo, hi, mk, hEc, hEm, hBc, hBm, hU, hC⟩, ⟨tw, tn, hHc, hHm⟩, ⟨dn, dl, hDc, hDm⟩, ⟨pn, pl, hPc, hPm⟩, ⟨s, sn, sl, hSc, hSm, hO⟩, hA, hF, hL⟩ := inv0
  refine x_aloadn (pc := 824) dL_law_824 rfl ?_
  refine x_aloadn (pc := 825) dL_law_825 rfl ?_
  refine x_iloadn (pc := 826) dL_law_826 rfl ?_
  refine x_iconst (pc := 827) dL_law_827 ?_
  refine x_iadd (pc := 828) dL_law_828 ?_
  refine x_sld (N := N) (i + 1) (pc := 829) dL_law_829 rfl ⟨by omega, by omega, by omega⟩ ?_
  refine x_aloadn (pc := 830) dL_law_830 rfl ?_
  refine x_iloadn (pc := 831) dL_law_831 rfl ?_
  refine x_iconst (pc := 832) dL_law_832 ?_
  refine x_iadd (pc := 833) dL_law_833 ?_
  refine x_sld (N := N) (i + 2) (pc := 834) dL_law_834 rfl ⟨by omega, by omega, by omega⟩ ?_
  refine x_cVI (pc := 835) dL_law_835 lk_L_102 (c_ts_turned hL hF hDc (hsc (i + 1)) (hsc (i + 2))) k_1 ⟨by decide, rfl⟩ (hL 1 (by decide) (by decide)) ⟨by decide, by decide⟩ (Nat.le_of_ble_eq_true rfl) rfl ?_
  rintro x G1 h1
  obtain ⟨hx, e1⟩ := h1
  obtain rfl := e1.symm
  refine x_aloadn (pc := 838) dL_law_838 rfl ?_
  refine x_aloadn (pc := 839) dL_law_839 rfl ?_
  refine x_iloadn (pc := 840) dL_law_840 rfl ?_
  refine x_iconst (pc := 841) dL_law_841 ?_
  refine x_iadd (pc := 842) dL_law_842 ?_
  refine x_sld (N := N) (i + 1) (pc := 843) dL_law_843 rfl ⟨by omega, by omega, by omega⟩ ?_
  refine x_aloadn (pc := 844) dL_law_844 rfl ?_
  refine x_iloadn (pc := 845) dL_law_845 rfl ?_
  refine x_iconst (pc := 846) dL_law_846 ?_
  refine x_iadd (pc := 847) dL_law_847 ?_
  refine x_sld (N := N) (i + 2) (pc := 848) dL_law_848 rfl ⟨by omega, by omega, by omega⟩ ?_
  refine x_cVI (pc := 849) dL_law_849 lk_L_105 (c_mo_turned hL hF hDm (hsc (i + 1)) (hsc (i + 2))) k_127 ⟨by decide, rfl⟩ (hL 127 (by decide) (by decide)) ⟨by decide, by decide⟩ (Nat.le_of_ble_eq_true rfl) rfl ?_
  rintro y G2 h2
  obtain ⟨hy, e2⟩ := h2
  obtain rfl := e2.symm
  refine x_ceqS (tgt := 1091) (pc := 852) dL_law_852 (by decide) (hx.trans hy.symm) ?_
  exact next _ _ _ _ inv bu.st
theorem w_classes {i N r k n : Nat} {sc : Nat → Int} {L : List Nat} {G : Nat → Nat → Int} (hN : N ≤ 2560) (hi : i + 5 ≤ N) (hsc : zSc sc) (inv : zInv L G) (bu : zBu (r + 1) L k n) (next : zNx i r N sc) : X (mL_law N sc) 10 600000 7302250 qT 857 [some (vR 0), some (vR 1), some (vR 127), some (vI i)] [] L G k n := by
  have inv0 := inv
  obtain ⟨⟨n0, b, hTc, hTm⟩, ⟨m, S, I, lo, hi, mk, hEc, hEm, hBc, hBm, hU, hC⟩, ⟨tw, tn, hHc, hHm⟩, ⟨dn, dl, hDc, hDm⟩, ⟨pn, pl, hPc, hPm⟩, ⟨s, sn, sl, hSc, hSm, hO⟩, hA, hF, hL⟩ := inv0
  refine x_aloadn (pc := 857) dL_law_857 rfl ?_
  refine x_aloadn (pc := 858) dL_law_858 rfl ?_
  refine x_iloadn (pc := 859) dL_law_859 rfl ?_
  refine x_iconst (pc := 860) dL_law_860 ?_
  refine x_iadd (pc := 861) dL_law_861 ?_
  refine x_sld (N := N) (i + 1) (pc := 862) dL_law_862 rfl ⟨by omega, by omega, by omega⟩ ?_
  refine x_aloadn (pc := 863) dL_law_863 rfl ?_
  refine x_iloadn (pc := 864) dL_law_864 rfl ?_
  refine x_iconst (pc := 865) dL_law_865 ?_
  refine x_iadd (pc := 866) dL_law_866 ?_
  refine x_sld (N := N) (i + 2) (pc := 867) dL_law_867 rfl ⟨by omega, by omega, by omega⟩ ?_
  refine x_aloadn (pc := 868) dL_law_868 rfl ?_
  refine x_iloadn (pc := 869) dL_law_869 rfl ?_
  refine x_iconst (pc := 870) dL_law_870 ?_
  refine x_iadd (pc := 871) dL_law_871 ?_
  refine x_sld (N := N) (i + 3) (pc := 872) dL_law_872 rfl ⟨by omega, by omega, by omega⟩ ?_
  refine x_aloadn (pc := 873) dL_law_873 rfl ?_
  refine x_iloadn (pc := 874) dL_law_874 rfl ?_
  refine x_iconst (pc := 875) dL_law_875 ?_
  refine x_iadd (pc := 876) dL_law_876 ?_
  refine x_sld (N := N) (i + 4) (pc := 877) dL_law_877 rfl ⟨by omega, by omega, by omega⟩ ?_
  refine x_cVI (pc := 878) dL_law_878 lk_L_106 (c_ts_classes hL hF (hsc (i + 1)) (hsc (i + 2)) (hsc (i + 3)) (hsc (i + 4))) k_1 ⟨by decide, rfl⟩ (hL 1 (by decide) (by decide)) ⟨by decide, by decide⟩ (Nat.le_of_ble_eq_true rfl) rfl ?_
  rintro x G1 h1
  rcases h1 with ⟨g1, hx, e1⟩ | ⟨g1, ⟨f, f1, hx⟩, k1, hF1⟩
  · skip
    obtain rfl := e1.symm
    refine x_aloadn (pc := 881) dL_law_881 rfl ?_
    refine x_aloadn (pc := 882) dL_law_882 rfl ?_
    refine x_iloadn (pc := 883) dL_law_883 rfl ?_
    refine x_iconst (pc := 884) dL_law_884 ?_
    refine x_iadd (pc := 885) dL_law_885 ?_
    refine x_sld (N := N) (i + 1) (pc := 886) dL_law_886 rfl ⟨by omega, by omega, by omega⟩ ?_
    refine x_aloadn (pc := 887) dL_law_887 rfl ?_
    refine x_iloadn (pc := 888) dL_law_888 rfl ?_
    refine x_iconst (pc := 889) dL_law_889 ?_
    refine x_iadd (pc := 890) dL_law_890 ?_
    refine x_sld (N := N) (i + 2) (pc := 891) dL_law_891 rfl ⟨by omega, by omega, by omega⟩ ?_
    refine x_aloadn (pc := 892) dL_law_892 rfl ?_
    refine x_iloadn (pc := 893) dL_law_893 rfl ?_
    refine x_iconst (pc := 894) dL_law_894 ?_
    refine x_iadd (pc := 895) dL_law_895 ?_
    refine x_sld (N := N) (i + 3) (pc := 896) dL_law_896 rfl ⟨by omega, by omega, by omega⟩ ?_
    refine x_aloadn (pc := 897) dL_law_897 rfl ?_
    refine x_iloadn (pc := 898) dL_law_898 rfl ?_
    refine x_iconst (pc := 899) dL_law_899 ?_
    refine x_iadd (pc := 900) dL_law_900 ?_
    refine x_sld (N := N) (i + 4) (pc := 901) dL_law_901 rfl ⟨by omega, by omega, by omega⟩ ?_
    refine x_cVI (pc := 902) dL_law_902 lk_L_109 (c_mo_classes hL hF (hsc (i + 1)) (hsc (i + 2)) (hsc (i + 3)) (hsc (i + 4))) k_127 ⟨by decide, rfl⟩ (hL 127 (by decide) (by decide)) ⟨by decide, by decide⟩ (Nat.le_of_ble_eq_true rfl) rfl ?_
    rintro y G2 h2
    rcases h2 with ⟨g3, hy, e2⟩ | ⟨g3, ⟨f2, f3, hy⟩, k2, hF2⟩
    · skip
      obtain rfl := e2.symm
      refine x_ceqS (tgt := 1091) (pc := 905) dL_law_905 (by decide) (hx.trans hy.symm) ?_
      exact next _ _ _ _ inv bu.st
    · skip
      first | exact absurd g3 g1 | exact absurd g1 g3 | exact absurd g4 g2 | exact absurd g2 g4 | exact absurd g3 g1.1 | (exfalso; omega)
  · skip
    refine x_aloadn (pc := 881) dL_law_881 rfl ?_
    refine x_aloadn (pc := 882) dL_law_882 rfl ?_
    refine x_iloadn (pc := 883) dL_law_883 rfl ?_
    refine x_iconst (pc := 884) dL_law_884 ?_
    refine x_iadd (pc := 885) dL_law_885 ?_
    refine x_sld (N := N) (i + 1) (pc := 886) dL_law_886 rfl ⟨by omega, by omega, by omega⟩ ?_
    refine x_aloadn (pc := 887) dL_law_887 rfl ?_
    refine x_iloadn (pc := 888) dL_law_888 rfl ?_
    refine x_iconst (pc := 889) dL_law_889 ?_
    refine x_iadd (pc := 890) dL_law_890 ?_
    refine x_sld (N := N) (i + 2) (pc := 891) dL_law_891 rfl ⟨by omega, by omega, by omega⟩ ?_
    refine x_aloadn (pc := 892) dL_law_892 rfl ?_
    refine x_iloadn (pc := 893) dL_law_893 rfl ?_
    refine x_iconst (pc := 894) dL_law_894 ?_
    refine x_iadd (pc := 895) dL_law_895 ?_
    refine x_sld (N := N) (i + 3) (pc := 896) dL_law_896 rfl ⟨by omega, by omega, by omega⟩ ?_
    refine x_aloadn (pc := 897) dL_law_897 rfl ?_
    refine x_iloadn (pc := 898) dL_law_898 rfl ?_
    refine x_iconst (pc := 899) dL_law_899 ?_
    refine x_iadd (pc := 900) dL_law_900 ?_
    refine x_sld (N := N) (i + 4) (pc := 901) dL_law_901 rfl ⟨by omega, by omega, by omega⟩ ?_
    refine x_cVI (pc := 902) dL_law_902 lk_L_109 (c_mo_classes hL hF1 (hsc (i + 1)) (hsc (i + 2)) (hsc (i + 3)) (hsc (i + 4))) k_127 ⟨by decide, rfl⟩ (hL 127 (by decide) (by decide)) ⟨by decide, by decide⟩ (Nat.le_of_ble_eq_true rfl) rfl ?_
    rintro y G2 h2
    rcases h2 with ⟨g3, hy, e2⟩ | ⟨g3, ⟨f2, f3, hy⟩, k2, hF2⟩
    · skip
      first | exact absurd g3 g1 | exact absurd g1 g3 | exact absurd g4 g2 | exact absurd g2 g4 | exact absurd g3 g1.1 | (exfalso; omega)
    · skip
      have ef : f = f2 := funext fun j => f1.uniq f3 (fun _ _ e => .base e) (fun _ _ e => .base e) j
      rw [← ef] at hy
      refine x_ceqS (tgt := 1091) (pc := 905) dL_law_905 (by decide) (hx.trans hy.symm) ?_
      have kk : FM ([84, 85, 86] ++ [162]) [] G G2 := (k1.fm.mono (fun i w => List.mem_append_left _ w) (fun _ w => w)).tr (k2.mono (fun i w => List.mem_append_right _ w) (fun _ w => w))
      exact next _ _ _ _ (inv.k kk hF2 (by decide +kernel) (by decide +kernel) (by decide +kernel) (by decide +kernel) (by decide +kernel) (by decide +kernel) (by decide +kernel)) bu.st
theorem w_pattern {i N r k n : Nat} {sc : Nat → Int} {L : List Nat} {G : Nat → Nat → Int} (hN : N ≤ 2560) (hi : i + 5 ≤ N) (hsc : zSc sc) (inv : zInv L G) (bu : zBu (r + 1) L k n) (next : zNx i r N sc) : X (mL_law N sc) 10 600000 7302250 qT 910 [some (vR 0), some (vR 1), some (vR 127), some (vI i)] [] L G k n := by
  have inv0 := inv
  obtain ⟨⟨n0, b, hTc, hTm⟩, ⟨m, S, I, lo, hi, mk, hEc, hEm, hBc, hBm, hU, hC⟩, ⟨tw, tn, hHc, hHm⟩, ⟨dn, dl, hDc, hDm⟩, ⟨pn, pl, hPc, hPm⟩, ⟨s, sn, sl, hSc, hSm, hO⟩, hA, hF, hL⟩ := inv0
  refine x_aloadn (pc := 910) dL_law_910 rfl ?_
  refine x_aloadn (pc := 911) dL_law_911 rfl ?_
  refine x_iloadn (pc := 912) dL_law_912 rfl ?_
  refine x_iconst (pc := 913) dL_law_913 ?_
  refine x_iadd (pc := 914) dL_law_914 ?_
  refine x_sld (N := N) (i + 1) (pc := 915) dL_law_915 rfl ⟨by omega, by omega, by omega⟩ ?_
  refine x_cVI (pc := 916) dL_law_916 lk_L_110 (c_ts_pattern2 hL hF hTc hPc (hsc (i + 1))) k_1 ⟨by decide, rfl⟩ (hL 1 (by decide) (by decide)) ⟨by decide, by decide⟩ (Nat.le_of_ble_eq_true rfl) rfl ?_
  rintro x G1 h1
  rcases h1 with ⟨g1, hx, e1⟩ | ⟨g1, g2, hx, e1⟩ | ⟨g1, g2, p, p1, hx, c1, c2, k1, hF1⟩
  · skip
    obtain rfl := e1.symm
    refine x_aloadn (pc := 919) dL_law_919 rfl ?_
    refine x_aloadn (pc := 920) dL_law_920 rfl ?_
    refine x_iloadn (pc := 921) dL_law_921 rfl ?_
    refine x_iconst (pc := 922) dL_law_922 ?_
    refine x_iadd (pc := 923) dL_law_923 ?_
    refine x_sld (N := N) (i + 1) (pc := 924) dL_law_924 rfl ⟨by omega, by omega, by omega⟩ ?_
    refine x_cVI (pc := 925) dL_law_925 lk_L_113 (c_mo_pattern hL hF hTm hPm (hsc (i + 1))) k_127 ⟨by decide, rfl⟩ (hL 127 (by decide) (by decide)) ⟨by decide, by decide⟩ (Nat.le_of_ble_eq_true rfl) rfl ?_
    rintro y G2 h2
    rcases h2 with ⟨g3, hy, e2⟩ | ⟨g3, g4, hy, k2, hF2⟩ | ⟨g3, g4, p2, p3, hy, m1, m2, k2, hF2⟩
    · skip
      obtain rfl := e2.symm
      refine x_ceqS (tgt := 1091) (pc := 928) dL_law_928 (by decide) (hx.trans hy.symm) ?_
      exact next _ _ _ _ inv bu.st
    · skip
      first | exact absurd g3 g1 | exact absurd g1 g3 | exact absurd g4 g2 | exact absurd g2 g4 | exact absurd g3 g1.1 | (exfalso; omega)
    · skip
      first | exact absurd g3 g1 | exact absurd g1 g3 | exact absurd g4 g2 | exact absurd g2 g4 | exact absurd g3 g1.1 | (exfalso; omega)
  · skip
    obtain rfl := e1.symm
    refine x_aloadn (pc := 919) dL_law_919 rfl ?_
    refine x_aloadn (pc := 920) dL_law_920 rfl ?_
    refine x_iloadn (pc := 921) dL_law_921 rfl ?_
    refine x_iconst (pc := 922) dL_law_922 ?_
    refine x_iadd (pc := 923) dL_law_923 ?_
    refine x_sld (N := N) (i + 1) (pc := 924) dL_law_924 rfl ⟨by omega, by omega, by omega⟩ ?_
    refine x_cVI (pc := 925) dL_law_925 lk_L_113 (c_mo_pattern hL hF hTm hPm (hsc (i + 1))) k_127 ⟨by decide, rfl⟩ (hL 127 (by decide) (by decide)) ⟨by decide, by decide⟩ (Nat.le_of_ble_eq_true rfl) rfl ?_
    rintro y G2 h2
    rcases h2 with ⟨g3, hy, e2⟩ | ⟨g3, g4, hy, k2, hF2⟩ | ⟨g3, g4, p2, p3, hy, m1, m2, k2, hF2⟩
    · skip
      first | exact absurd g3 g1 | exact absurd g1 g3 | exact absurd g4 g2 | exact absurd g2 g4 | exact absurd g3 g1.1 | (exfalso; omega)
    · skip
      refine x_ceqS (tgt := 1091) (pc := 928) dL_law_928 (by decide) (hx.trans hy.symm) ?_
      exact next _ _ _ _ (inv.k k2 hF2 (by decide +kernel) (by decide +kernel) (by decide +kernel) (by decide +kernel) (by decide +kernel) (by decide +kernel) (by decide +kernel)) bu.st
    · skip
      exact absurd (g2.symm.trans g4) (by decide)
  · skip
    have q1 := hTm.Fk (F := []) k1.fm (by decide) (by decide) (by decide)
    have q2 := hPm.Fk (F := []) k1.fm (by decide) (by decide)
    refine x_aloadn (pc := 919) dL_law_919 rfl ?_
    refine x_aloadn (pc := 920) dL_law_920 rfl ?_
    refine x_iloadn (pc := 921) dL_law_921 rfl ?_
    refine x_iconst (pc := 922) dL_law_922 ?_
    refine x_iadd (pc := 923) dL_law_923 ?_
    refine x_sld (N := N) (i + 1) (pc := 924) dL_law_924 rfl ⟨by omega, by omega, by omega⟩ ?_
    refine x_cVI (pc := 925) dL_law_925 lk_L_113 (c_mo_pattern hL hF1 q1 q2 (hsc (i + 1))) k_127 ⟨by decide, rfl⟩ (hL 127 (by decide) (by decide)) ⟨by decide, by decide⟩ (Nat.le_of_ble_eq_true rfl) rfl ?_
    rintro y G2 h2
    rcases h2 with ⟨g3, hy, e2⟩ | ⟨g3, g4, hy, k2, hF2⟩ | ⟨g3, g4, p2, p3, hy, m1, m2, k2, hF2⟩
    · skip
      first | exact absurd g3 g1 | exact absurd g1 g3 | exact absurd g4 g2 | exact absurd g2 g4 | exact absurd g3 g1.1 | (exfalso; omega)
    · skip
      exact absurd (g2.symm.trans g4) (by decide)
    · skip
      obtain rfl := Option.some.inj (p3.symm.trans p1)
      refine x_ceqS (tgt := 1091) (pc := 928) dL_law_928 (by decide) (hx.trans hy.symm) ?_
      have kk : FM (z_ptS ++ [142, 138, 139]) [1] G G2 := (k1.fm.mono (fun i w => List.mem_append_left _ w) (fun _ w => w)).tr (k2.mono (fun i w => List.mem_append_right _ w) (fun _ w => w))
      exact next _ _ _ _ ⟨(⟨0, _, c2.FR k2.fr (by decide) (by decide), m2⟩), (inv.2.1.k kk (by decide +kernel) (by decide +kernel)), (inv.2.2.1.k kk (by decide +kernel)), (inv.2.2.2.1.k kk (by decide +kernel)), (⟨_, _, c1.FR k2.fr (by decide), m1⟩), (inv.2.2.2.2.2.1.k kk (by decide +kernel) (by decide +kernel)), (hA.FR kk.fr (by decide +kernel)), hF2, hL⟩ bu.st

