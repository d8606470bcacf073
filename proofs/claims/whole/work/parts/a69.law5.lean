/-! the law: makes, carries, sample, clear, common, count -/
theorem w_makes {i N r k n : Nat} {sc : Nat → Int} {L : List Nat} {G : Nat → Nat → Int} (hN : N ≤ 2560) (hi : i + 5 ≤ N) (hsc : zSc sc) (inv : zInv L G) (bu : zBu (r + 1) L k n) (next : zNx i r N sc) : X (mL_law N sc) 10 600000 7302250 qT 933 [some (vR 0), some (vR 1), some (vR 127), some (vI i)] [] L G k n := by
  have inv0 := inv
  obtain ⟨⟨n0, b, hTc, hTm⟩, ⟨m, S, I, lo, hi, mk, hEc, hEm, hBc, hBm, hU, hC⟩, ⟨tw, tn, hHc, hHm⟩, ⟨dn, dl, hDc, hDm⟩, ⟨pn, pl, hPc, hPm⟩, ⟨s, sn, sl, hSc, hSm, hO⟩, hA, hF, hL⟩ := inv0
  refine x_aloadn (pc := 933) dL_law_933 rfl ?_
  refine x_aloadn (pc := 934) dL_law_934 rfl ?_
  refine x_iloadn (pc := 935) dL_law_935 rfl ?_
  refine x_iconst (pc := 936) dL_law_936 ?_
  refine x_iadd (pc := 937) dL_law_937 ?_
  refine x_sld (N := N) (i + 1) (pc := 938) dL_law_938 rfl ⟨by omega, by omega, by omega⟩ ?_
  refine x_aloadn (pc := 939) dL_law_939 rfl ?_
  refine x_iloadn (pc := 940) dL_law_940 rfl ?_
  refine x_iconst (pc := 941) dL_law_941 ?_
  refine x_iadd (pc := 942) dL_law_942 ?_
  refine x_sld (N := N) (i + 2) (pc := 943) dL_law_943 rfl ⟨by omega, by omega, by omega⟩ ?_
  refine x_cVI (pc := 944) dL_law_944 lk_L_114 (c_ts_makes hL hF hDc hPc (hsc (i + 1)) (hsc (i + 2))) k_1 ⟨by decide, rfl⟩ (hL 1 (by decide) (by decide)) ⟨by decide, by decide⟩ (Nat.le_of_ble_eq_true rfl) rfl ?_
  rintro x G1 h1
  obtain ⟨hx, k1, hF1⟩ := h1
  have q1 := hDm.Fk (F := []) k1.fm (by decide) (by decide)
  have q2 := hPm.Fk (F := []) k1.fm (by decide) (by decide)
  refine x_aloadn (pc := 947) dL_law_947 rfl ?_
  refine x_aloadn (pc := 948) dL_law_948 rfl ?_
  refine x_iloadn (pc := 949) dL_law_949 rfl ?_
  refine x_iconst (pc := 950) dL_law_950 ?_
  refine x_iadd (pc := 951) dL_law_951 ?_
  refine x_sld (N := N) (i + 1) (pc := 952) dL_law_952 rfl ⟨by omega, by omega, by omega⟩ ?_
  refine x_aloadn (pc := 953) dL_law_953 rfl ?_
  refine x_iloadn (pc := 954) dL_law_954 rfl ?_
  refine x_iconst (pc := 955) dL_law_955 ?_
  refine x_iadd (pc := 956) dL_law_956 ?_
  refine x_sld (N := N) (i + 2) (pc := 957) dL_law_957 rfl ⟨by omega, by omega, by omega⟩ ?_
  refine x_cVI (pc := 958) dL_law_958 lk_L_117 (c_mo_makes hL hF1 q1 q2 (hsc (i + 1)) (hsc (i + 2))) k_127 ⟨by decide, rfl⟩ (hL 127 (by decide) (by decide)) ⟨by decide, by decide⟩ (Nat.le_of_ble_eq_true rfl) rfl ?_
  rintro y G2 h2
  obtain ⟨hy, k2, hF2⟩ := h2
  refine x_ceqS (tgt := 1091) (pc := 961) dL_law_961 (by decide) (hx.trans hy.symm) ?_
  have kk : FM (zPScr ++ zMkS) [50, 48] G G2 := (k1.fm.mono (fun i w => List.mem_append_left _ w) (fun _ w => w)).tr (k2.mono (fun i w => List.mem_append_right _ w) (fun _ w => w))
  exact next _ _ _ _ (inv.k kk hF2 (by decide +kernel) (by decide +kernel) (by decide +kernel) (by decide +kernel) (by decide +kernel) (by decide +kernel) (by decide +kernel)) bu.st
theorem w_carries {i N r k n : Nat} {sc : Nat → Int} {L : List Nat} {G : Nat → Nat → Int} (hN : N ≤ 2560) (hi : i + 5 ≤ N) (hsc : zSc sc) (inv : zInv L G) (bu : zBu (r + 1) L k n) (next : zNx i r N sc) : X (mL_law N sc) 10 600000 7302250 qT 966 [some (vR 0), some (vR 1), some (vR 127), some (vI i)] [] L G k n := by
  have inv0 := inv
  obtain ⟨⟨n0, b, hTc, hTm⟩, ⟨m, S, I, lo, hi, mk, hEc, hEm, hBc, hBm, hU, hC⟩, ⟨tw, tn, hHc, hHm⟩, ⟨dn, dl, hDc, hDm⟩, ⟨pn, pl, hPc, hPm⟩, ⟨s, sn, sl, hSc, hSm, hO⟩, hA, hF, hL⟩ := inv0
  refine x_aloadn (pc := 966) dL_law_966 rfl ?_
  refine x_aloadn (pc := 967) dL_law_967 rfl ?_
  refine x_iloadn (pc := 968) dL_law_968 rfl ?_
  refine x_iconst (pc := 969) dL_law_969 ?_
  refine x_iadd (pc := 970) dL_law_970 ?_
  refine x_sld (N := N) (i + 1) (pc := 971) dL_law_971 rfl ⟨by omega, by omega, by omega⟩ ?_
  refine x_aloadn (pc := 972) dL_law_972 rfl ?_
  refine x_iloadn (pc := 973) dL_law_973 rfl ?_
  refine x_iconst (pc := 974) dL_law_974 ?_
  refine x_iadd (pc := 975) dL_law_975 ?_
  refine x_sld (N := N) (i + 2) (pc := 976) dL_law_976 rfl ⟨by omega, by omega, by omega⟩ ?_
  refine x_cVI (pc := 977) dL_law_977 lk_L_118 (c_ts_carries hL hF hPc (hsc (i + 1)) (hsc (i + 2))) k_1 ⟨by decide, rfl⟩ (hL 1 (by decide) (by decide)) ⟨by decide, by decide⟩ (Nat.le_of_ble_eq_true rfl) rfl ?_
  rintro x G1 h1
  obtain ⟨hx, k1, hF1⟩ := h1
  have q2 := hPm.Fk (F := []) k1.fm (by decide) (by decide)
  refine x_aloadn (pc := 980) dL_law_980 rfl ?_
  refine x_aloadn (pc := 981) dL_law_981 rfl ?_
  refine x_iloadn (pc := 982) dL_law_982 rfl ?_
  refine x_iconst (pc := 983) dL_law_983 ?_
  refine x_iadd (pc := 984) dL_law_984 ?_
  refine x_sld (N := N) (i + 1) (pc := 985) dL_law_985 rfl ⟨by omega, by omega, by omega⟩ ?_
  refine x_aloadn (pc := 986) dL_law_986 rfl ?_
  refine x_iloadn (pc := 987) dL_law_987 rfl ?_
  refine x_iconst (pc := 988) dL_law_988 ?_
  refine x_iadd (pc := 989) dL_law_989 ?_
  refine x_sld (N := N) (i + 2) (pc := 990) dL_law_990 rfl ⟨by omega, by omega, by omega⟩ ?_
  refine x_cVI (pc := 991) dL_law_991 lk_L_121 (c_mo_carries hL hF1 q2 (hsc (i + 1)) (hsc (i + 2))) k_127 ⟨by decide, rfl⟩ (hL 127 (by decide) (by decide)) ⟨by decide, by decide⟩ (Nat.le_of_ble_eq_true rfl) rfl ?_
  rintro y G2 h2
  obtain ⟨hy, k2, hF2⟩ := h2
  refine x_ceqS (tgt := 1091) (pc := 994) dL_law_994 (by decide) (hx.trans hy.symm) ?_
  have kk : FM (zPScr ++ zMkS) [50, 48] G G2 := (k1.fm.mono (fun i w => List.mem_append_left _ w) (fun _ w => w)).tr (k2.mono (fun i w => List.mem_append_right _ w) (fun _ w => w))
  exact next _ _ _ _ (inv.k kk hF2 (by decide +kernel) (by decide +kernel) (by decide +kernel) (by decide +kernel) (by decide +kernel) (by decide +kernel) (by decide +kernel)) bu.st
theorem w_sample {i N r k n : Nat} {sc : Nat → Int} {L : List Nat} {G : Nat → Nat → Int} (hN : N ≤ 2560) (hi : i + 5 ≤ N) (hsc : zSc sc) (inv : zInv L G) (bu : zBu (r + 1) L k n) (next : zNx i r N sc) : X (mL_law N sc) 10 600000 7302250 qT 999 [some (vR 0), some (vR 1), some (vR 127), some (vI i)] [] L G k n := by
  have inv0 := inv
  obtain ⟨⟨n0, b, hTc, hTm⟩, ⟨m, S, I, lo, hi, mk, hEc, hEm, hBc, hBm, hU, hC⟩, ⟨tw, tn, hHc, hHm⟩, ⟨dn, dl, hDc, hDm⟩, ⟨pn, pl, hPc, hPm⟩, ⟨s, sn, sl, hSc, hSm, hO⟩, hA, hF, hL⟩ := inv0
  refine x_aloadn (pc := 999) dL_law_999 rfl ?_
  refine x_aloadn (pc := 1000) dL_law_1000 rfl ?_
  refine x_iloadn (pc := 1001) dL_law_1001 rfl ?_
  refine x_iconst (pc := 1002) dL_law_1002 ?_
  refine x_iadd (pc := 1003) dL_law_1003 ?_
  refine x_sld (N := N) (i + 1) (pc := 1004) dL_law_1004 rfl ⟨by omega, by omega, by omega⟩ ?_
  refine x_aloadn (pc := 1005) dL_law_1005 rfl ?_
  refine x_iloadn (pc := 1006) dL_law_1006 rfl ?_
  refine x_iconst (pc := 1007) dL_law_1007 ?_
  refine x_iadd (pc := 1008) dL_law_1008 ?_
  refine x_sld (N := N) (i + 2) (pc := 1009) dL_law_1009 rfl ⟨by omega, by omega, by omega⟩ ?_
  refine x_cVI (pc := 1010) dL_law_1010 lk_L_122 (c_ts_sample hL hF hSc (hsc (i + 1)) (hsc (i + 2))) k_1 ⟨by decide, rfl⟩ (hL 1 (by decide) (by decide)) ⟨by decide, by decide⟩ (Nat.le_of_ble_eq_true rfl) rfl ?_
  rintro x G1 h1
  rcases h1 with ⟨g1, hx, e1⟩ | ⟨g1, g2, hx, e1⟩ | ⟨g1, g2, hx, c1, c2, k0, hF1⟩
  · skip
    obtain rfl := e1.symm
    refine x_aloadn (pc := 1013) dL_law_1013 rfl ?_
    refine x_aloadn (pc := 1014) dL_law_1014 rfl ?_
    refine x_iloadn (pc := 1015) dL_law_1015 rfl ?_
    refine x_iconst (pc := 1016) dL_law_1016 ?_
    refine x_iadd (pc := 1017) dL_law_1017 ?_
    refine x_sld (N := N) (i + 1) (pc := 1018) dL_law_1018 rfl ⟨by omega, by omega, by omega⟩ ?_
    refine x_aloadn (pc := 1019) dL_law_1019 rfl ?_
    refine x_iloadn (pc := 1020) dL_law_1020 rfl ?_
    refine x_iconst (pc := 1021) dL_law_1021 ?_
    refine x_iadd (pc := 1022) dL_law_1022 ?_
    refine x_sld (N := N) (i + 2) (pc := 1023) dL_law_1023 rfl ⟨by omega, by omega, by omega⟩ ?_
    refine x_cVI (pc := 1024) dL_law_1024 lk_L_125 (c_mo_sample hL hF hSm (hsc (i + 1)) (hsc (i + 2))) k_127 ⟨by decide, rfl⟩ (hL 127 (by decide) (by decide)) ⟨by decide, by decide⟩ (Nat.le_of_ble_eq_true rfl) rfl ?_
    rintro y G2 h2
    rcases h2 with ⟨g3, hy, e2⟩ | ⟨g3, g4, hy, e2⟩ | ⟨g3, g4, hy, m1, k2, hF2⟩
    · skip
      obtain rfl := e2.symm
      refine x_ceqS (tgt := 1091) (pc := 1027) dL_law_1027 (by decide) (hx.trans hy.symm) ?_
      exact next _ _ _ _ inv bu.st
    · skip
      first | exact absurd g3 g1 | exact absurd g1 g3 | exact absurd g4 g2 | exact absurd g2 g4 | exact absurd g3 g1.1 | (exfalso; omega)
    · skip
      first | exact absurd g3 g1 | exact absurd g1 g3 | exact absurd g4 g2 | exact absurd g2 g4 | exact absurd g3 g1.1 | (exfalso; omega)
  · skip
    obtain rfl := e1.symm
    refine x_aloadn (pc := 1013) dL_law_1013 rfl ?_
    refine x_aloadn (pc := 1014) dL_law_1014 rfl ?_
    refine x_iloadn (pc := 1015) dL_law_1015 rfl ?_
    refine x_iconst (pc := 1016) dL_law_1016 ?_
    refine x_iadd (pc := 1017) dL_law_1017 ?_
    refine x_sld (N := N) (i + 1) (pc := 1018) dL_law_1018 rfl ⟨by omega, by omega, by omega⟩ ?_
    refine x_aloadn (pc := 1019) dL_law_1019 rfl ?_
    refine x_iloadn (pc := 1020) dL_law_1020 rfl ?_
    refine x_iconst (pc := 1021) dL_law_1021 ?_
    refine x_iadd (pc := 1022) dL_law_1022 ?_
    refine x_sld (N := N) (i + 2) (pc := 1023) dL_law_1023 rfl ⟨by omega, by omega, by omega⟩ ?_
    refine x_cVI (pc := 1024) dL_law_1024 lk_L_125 (c_mo_sample hL hF hSm (hsc (i + 1)) (hsc (i + 2))) k_127 ⟨by decide, rfl⟩ (hL 127 (by decide) (by decide)) ⟨by decide, by decide⟩ (Nat.le_of_ble_eq_true rfl) rfl ?_
    rintro y G2 h2
    rcases h2 with ⟨g3, hy, e2⟩ | ⟨g3, g4, hy, e2⟩ | ⟨g3, g4, hy, m1, k2, hF2⟩
    · skip
      first | exact absurd g3 g1 | exact absurd g1 g3 | exact absurd g4 g2 | exact absurd g2 g4 | exact absurd g3 g1.1 | (exfalso; omega)
    · skip
      obtain rfl := e2.symm
      refine x_ceqS (tgt := 1091) (pc := 1027) dL_law_1027 (by decide) (hx.trans hy.symm) ?_
      exact next _ _ _ _ inv bu.st
    · skip
      first | exact absurd g3 g1 | exact absurd g1 g3 | exact absurd g4 g2 | exact absurd g2 g4 | exact absurd g3 g1.1 | (exfalso; omega)
  · skip
    have k1 := k0.fr
    have q1 := hSm.Fk (F := []) k1.fm (by decide) (by decide) (by decide) (by decide)
    refine x_aloadn (pc := 1013) dL_law_1013 rfl ?_
    refine x_aloadn (pc := 1014) dL_law_1014 rfl ?_
    refine x_iloadn (pc := 1015) dL_law_1015 rfl ?_
    refine x_iconst (pc := 1016) dL_law_1016 ?_
    refine x_iadd (pc := 1017) dL_law_1017 ?_
    refine x_sld (N := N) (i + 1) (pc := 1018) dL_law_1018 rfl ⟨by omega, by omega, by omega⟩ ?_
    refine x_aloadn (pc := 1019) dL_law_1019 rfl ?_
    refine x_iloadn (pc := 1020) dL_law_1020 rfl ?_
    refine x_iconst (pc := 1021) dL_law_1021 ?_
    refine x_iadd (pc := 1022) dL_law_1022 ?_
    refine x_sld (N := N) (i + 2) (pc := 1023) dL_law_1023 rfl ⟨by omega, by omega, by omega⟩ ?_
    refine x_cVI (pc := 1024) dL_law_1024 lk_L_125 (c_mo_sample hL hF1 q1 (hsc (i + 1)) (hsc (i + 2))) k_127 ⟨by decide, rfl⟩ (hL 127 (by decide) (by decide)) ⟨by decide, by decide⟩ (Nat.le_of_ble_eq_true rfl) rfl ?_
    rintro y G2 h2
    rcases h2 with ⟨g3, hy, e2⟩ | ⟨g3, g4, hy, e2⟩ | ⟨g3, g4, hy, m1, k2, hF2⟩
    · skip
      first | exact absurd g3 g1 | exact absurd g1 g3 | exact absurd g4 g2 | exact absurd g2 g4 | exact absurd g3 g1.1 | (exfalso; omega)
    · skip
      first | exact absurd g3 g1 | exact absurd g1 g3 | exact absurd g4 g2 | exact absurd g2 g4 | exact absurd g3 g1.1 | (exfalso; omega)
    · skip
      refine x_ceqS (tgt := 1091) (pc := 1027) dL_law_1027 (by decide) (hx.trans hy.symm) ?_
      have kk : FM (([] ++ (List.range (99 - 88)).map fun j => 88 + j) ++ [140, 141]) [17] G G2 := (k1.fm.mono (fun i w => List.mem_append_left _ w) (fun _ w => w)).tr (k2.mono (fun i w => List.mem_append_right _ w) (fun _ w => w))
      have k88 : G2 88 = G1 88 := k2.cell (by decide) (by decide)
      exact next _ _ _ _ ⟨(inv.1.k kk (by decide +kernel) (by decide +kernel)), (inv.2.1.k kk (by decide +kernel) (by decide +kernel)), (inv.2.2.1.k kk (by decide +kernel)), (inv.2.2.2.1.k kk (by decide +kernel)), (inv.2.2.2.2.1.k kk (by decide +kernel)), (⟨_, _, _, c1.FR k2.fr (by decide), m1, cSo_0 (by rw [k88]; exact c2)⟩), (hA.FR kk.fr (by decide +kernel)), hF2, hL⟩ bu.st
theorem w_clear {i N r k n : Nat} {sc : Nat → Int} {L : List Nat} {G : Nat → Nat → Int} (hN : N ≤ 2560) (hi : i + 5 ≤ N) (hsc : zSc sc) (inv : zInv L G) (bu : zBu (r + 1) L k n) (next : zNx i r N sc) : X (mL_law N sc) 10 600000 7302250 qT 1032 [some (vR 0), some (vR 1), some (vR 127), some (vI i)] [] L G k n := by
  have inv0 := inv
  obtain ⟨⟨n0, b, hTc, hTm⟩, ⟨m, S, I, lo, hi, mk, hEc, hEm, hBc, hBm, hU, hC⟩, ⟨tw, tn, hHc, hHm⟩, ⟨dn, dl, hDc, hDm⟩, ⟨pn, pl, hPc, hPm⟩, ⟨s, sn, sl, hSc, hSm, hO⟩, hA, hF, hL⟩ := inv0
  refine x_aloadn (pc := 1032) dL_law_1032 rfl ?_
  refine x_cVI (pc := 1033) dL_law_1033 lk_L_126 (c_ts_clear hL hF hSc) k_1 ⟨by decide, rfl⟩ (hL 1 (by decide) (by decide)) ⟨by decide, by decide⟩ (Nat.le_of_ble_eq_true rfl) rfl ?_
  rintro x G1 h1
  obtain ⟨hx, c1, c2, k1, hF1⟩ := h1
  have q1 := hSm.Fk (F := []) k1.fm (by decide) (by decide) (by decide) (by decide)
  refine x_aloadn (pc := 1036) dL_law_1036 rfl ?_
  refine x_cVI (pc := 1037) dL_law_1037 lk_L_129 (c_mo_clear hL hF1 q1) k_127 ⟨by decide, rfl⟩ (hL 127 (by decide) (by decide)) ⟨by decide, by decide⟩ (Nat.le_of_ble_eq_true rfl) rfl ?_
  rintro y G2 h2
  obtain ⟨hy, m1, k2, hF2⟩ := h2
  refine x_ceqS (tgt := 1091) (pc := 1040) dL_law_1040 (by decide) (hx.trans hy.symm) ?_
  have kk : FM ([88] ++ []) [17] G G2 := (k1.fm.mono (fun i w => List.mem_append_left _ w) (fun _ w => w)).tr (k2.mono (fun i w => List.mem_append_right _ w) (fun _ w => w))
  have k88 : G2 88 = G1 88 := k2.cell (by decide) (by decide)
  exact next _ _ _ _ ⟨(inv.1.k kk (by decide +kernel) (by decide +kernel)), (inv.2.1.k kk (by decide +kernel) (by decide +kernel)), (inv.2.2.1.k kk (by decide +kernel)), (inv.2.2.2.1.k kk (by decide +kernel)), (inv.2.2.2.2.1.k kk (by decide +kernel)), (⟨0, _, _, c1.FR k2.fr (by decide), m1, cSo_0 (by rw [k88]; exact c2)⟩), (hA.FR kk.fr (by decide +kernel)), hF2, hL⟩ bu.st
theorem w_common {i N r k n : Nat} {sc : Nat → Int} {L : List Nat} {G : Nat → Nat → Int} (hN : N ≤ 2560) (hi : i + 5 ≤ N) (hsc : zSc sc) (inv : zInv L G) (bu : zBu (r + 1) L k n) (next : zNx i r N sc) : X (mL_law N sc) 10 600000 7302250 qT 1045 [some (vR 0), some (vR 1), some (vR 127), some (vI i)] [] L G k n := by
  have inv0 := inv
  obtain ⟨⟨n0, b, hTc, hTm⟩, ⟨m, S, I, lo, hi, mk, hEc, hEm, hBc, hBm, hU, hC⟩, ⟨tw, tn, hHc, hHm⟩, ⟨dn, dl, hDc, hDm⟩, ⟨pn, pl, hPc, hPm⟩, ⟨s, sn, sl, hSc, hSm, hO⟩, hA, hF, hL⟩ := inv0
  refine x_aloadn (pc := 1045) dL_law_1045 rfl ?_
  refine x_aloadn (pc := 1046) dL_law_1046 rfl ?_
  refine x_iloadn (pc := 1047) dL_law_1047 rfl ?_
  refine x_iconst (pc := 1048) dL_law_1048 ?_
  refine x_iadd (pc := 1049) dL_law_1049 ?_
  refine x_sld (N := N) (i + 1) (pc := 1050) dL_law_1050 rfl ⟨by omega, by omega, by omega⟩ ?_
  refine x_cVI (pc := 1051) dL_law_1051 lk_L_130 (c_ts_common hL hF hSc hO (hsc (i + 1))) k_1 ⟨by decide, rfl⟩ (hL 1 (by decide) (by decide)) ⟨by decide, by decide⟩ (Nat.le_of_ble_eq_true rfl) rfl ?_
  rintro x G1 h1
  obtain ⟨hx, c1, c2, k1, hF1⟩ := h1
  have q1 := hSm.Fk (F := []) k1.fm (by decide) (by decide) (by decide) (by decide)
  refine x_aloadn (pc := 1054) dL_law_1054 rfl ?_
  refine x_aloadn (pc := 1055) dL_law_1055 rfl ?_
  refine x_iloadn (pc := 1056) dL_law_1056 rfl ?_
  refine x_iconst (pc := 1057) dL_law_1057 ?_
  refine x_iadd (pc := 1058) dL_law_1058 ?_
  refine x_sld (N := N) (i + 1) (pc := 1059) dL_law_1059 rfl ⟨by omega, by omega, by omega⟩ ?_
  refine x_cVI (pc := 1060) dL_law_1060 lk_L_133 (c_mo_common hL hF1 q1 (hsc (i + 1))) k_127 ⟨by decide, rfl⟩ (hL 127 (by decide) (by decide)) ⟨by decide, by decide⟩ (Nat.le_of_ble_eq_true rfl) rfl ?_
  rintro y G2 h2
  obtain ⟨hy, m1, k2, hF2⟩ := h2
  refine x_ceqS (tgt := 1091) (pc := 1063) dL_law_1063 (by decide) (zCo_fn hx hy) ?_
  have kk : FM (zsmS ++ zcoS) [50, 48] G G2 := (k1.fm.mono (fun i w => List.mem_append_left _ w) (fun _ w => w)).tr (k2.mono (fun i w => List.mem_append_right _ w) (fun _ w => w))
  exact next _ _ _ _ ⟨(inv.1.k kk (by decide +kernel) (by decide +kernel)), (inv.2.1.k kk (by decide +kernel) (by decide +kernel)), (inv.2.2.1.k kk (by decide +kernel)), (inv.2.2.2.1.k kk (by decide +kernel)), (inv.2.2.2.2.1.k kk (by decide +kernel)), (⟨s, sn, sl, c1.FR k2.fr (by decide), m1, c2.FR k2.fr (by decide) (by decide)⟩), (hA.FR kk.fr (by decide +kernel)), hF2, hL⟩ bu.st
theorem w_count {i N r k n : Nat} {sc : Nat → Int} {L : List Nat} {G : Nat → Nat → Int} (hN : N ≤ 2560) (hi : i + 5 ≤ N) (hsc : zSc sc) (inv : zInv L G) (bu : zBu (r + 1) L k n) (next : zNx i r N sc) : X (mL_law N sc) 10 600000 7302250 qT 1068 [some (vR 0), some (vR 1), some (vR 127), some (vI i)] [] L G k n := by
  have inv0 := inv
  obtain ⟨⟨n0, b, hTc, hTm⟩, ⟨m, S, I, lo, hi, mk, hEc, hEm, hBc, hBm, hU, hC⟩, ⟨tw, tn, hHc, hHm⟩, ⟨dn, dl, hDc, hDm⟩, ⟨pn, pl, hPc, hPm⟩, ⟨s, sn, sl, hSc, hSm, hO⟩, hA, hF, hL⟩ := inv0
  refine x_aloadn (pc := 1068) dL_law_1068 rfl ?_
  refine x_aloadn (pc := 1069) dL_law_1069 rfl ?_
  refine x_iloadn (pc := 1070) dL_law_1070 rfl ?_
  refine x_iconst (pc := 1071) dL_law_1071 ?_
  refine x_iadd (pc := 1072) dL_law_1072 ?_
  refine x_sld (N := N) (i + 1) (pc := 1073) dL_law_1073 rfl ⟨by omega, by omega, by omega⟩ ?_
  refine x_cVI (pc := 1074) dL_law_1074 lk_L_134 (c_ts_count hL hF hEc hTc hSc.1 hSc.2.1 hPc (hsc (i + 1))) k_1 ⟨by decide, rfl⟩ (hL 1 (by decide) (by decide)) ⟨by decide, by decide⟩ (Nat.le_of_ble_eq_true rfl) rfl ?_
  rintro x G1 h1
  obtain ⟨hx, e1⟩ := h1
  obtain rfl := e1.symm
  refine x_aloadn (pc := 1077) dL_law_1077 rfl ?_
  refine x_aloadn (pc := 1078) dL_law_1078 rfl ?_
  refine x_iloadn (pc := 1079) dL_law_1079 rfl ?_
  refine x_iconst (pc := 1080) dL_law_1080 ?_
  refine x_iadd (pc := 1081) dL_law_1081 ?_
  refine x_sld (N := N) (i + 1) (pc := 1082) dL_law_1082 rfl ⟨by omega, by omega, by omega⟩ ?_
  refine x_cVI (pc := 1083) dL_law_1083 lk_L_137 (c_mo_count hL hF hEm hTm hSm.1 hSm.2.1 hPm (hsc (i + 1))) k_127 ⟨by decide, rfl⟩ (hL 127 (by decide) (by decide)) ⟨by decide, by decide⟩ (Nat.le_of_ble_eq_true rfl) rfl ?_
  rintro y G2 h2
  obtain ⟨hy, e2⟩ := h2
  obtain rfl := e2.symm
  refine x_ceqS (tgt := 1091) (pc := 1086) dL_law_1086 (by decide) (hx.trans hy.symm) ?_
  exact next _ _ _ _ inv bu.st

