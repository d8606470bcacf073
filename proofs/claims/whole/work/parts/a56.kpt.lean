/-! words, patterns, samples are made -/
def nw_84 : List Nat := [85, 86]
def us_84 : List (Nat × Nat × Int) := [(84, 2, 0), (84, 1, 86), (84, 0, 85)]
set_option maxRecDepth 20000 in
theorem k_init_84 {L : List Nat} {G : Nat → Nat → Int} (hr : 84 ∈ L) (hN : x_new 85 87 L) : CM yX0_init mX0_init 1 2 120 [vR 84] L G (qK L nw_84 us_84 G) := by
  refine Ct.of_X (μ := mX0_init) rfl rfl (by decide) (fun _ => rfl) (Nat.le_of_ble_eq_true rfl) rfl ?_
  refine y_start ?_
  refine x_aloadn (pc := 0) dX0_init_0 rfl ?_
  refine x_objI (pc := 1) dX0_init_1 lm_X0_3 (by decide) (Nat.le_of_ble_eq_true rfl) ?_
  refine x_aloadn (pc := 4) dX0_init_4 rfl ?_
  refine x_bipush (pc := 5) dX0_init_5 (by decide) ?_
  refine y_newI (N := 60) (q := 85) (pc := 7) dX0_init_7 rfl (by decide) (hN 85 (by decide) (by decide)) (by decide) (by decide +kernel) (by decide +kernel) k_85 (by decide) ?_
  refine y_putFR (pc := 9) dX0_init_9 fp_X0_9 k_84 (Or.inl hr) rfl ?_
  refine x_aloadn (pc := 12) dX0_init_12 rfl ?_
  refine x_bipush (pc := 13) dX0_init_13 (by decide) ?_
  refine y_newI (N := 60) (q := 86) (pc := 15) dX0_init_15 rfl (by decide) (hN 86 (by decide) (by decide)) (by decide) (by decide +kernel) (by decide +kernel) k_86 (by decide) ?_
  refine y_putFR (pc := 17) dX0_init_17 fp_X0_15 k_84 (Or.inl hr) rfl ?_
  refine x_aloadn (pc := 20) dX0_init_20 rfl ?_
  refine x_iconst (pc := 21) dX0_init_21 ?_
  refine y_putI (pc := 22) dX0_init_22 fp_X0_18 k_84 (Or.inl hr) ?_
  exact y_ret dX0_init_25 rfl
def nw_88 : List Nat := [90, 91, 92, 93, 94, 95, 89, 96, 97, 98]
def us_88 : List (Nat × Nat × Int) := [(88, 6, 0), (88, 5, 0), (88, 4, 0), (88, 3, 98), (88, 2, 97), (88, 1, 96), (88, 0, 89), (89, 0, 90), (89, 1, 91), (89, 2, 92), (89, 3, 93), (89, 4, 94), (89, 5, 95)]
set_option maxRecDepth 20000 in
theorem k_init_88 {L : List Nat} {G : Nat → Nat → Int} (hr : 88 ∈ L) (hN : x_new 89 99 L) : CM yX7_init mX7_init 1 10 76 [vR 88] L G (qK L nw_88 us_88 G) := by
  refine Ct.of_X (μ := mX7_init) rfl rfl (by decide) (fun _ => rfl) (Nat.le_of_ble_eq_true rfl) rfl ?_
  refine y_start ?_
  refine x_aloadn (pc := 0) dX7_init_0 rfl ?_
  refine x_objI (pc := 1) dX7_init_1 lm_X7_3 (by decide) (Nat.le_of_ble_eq_true rfl) ?_
  refine x_aloadn (pc := 4) dX7_init_4 rfl ?_
  refine x_bipush (pc := 5) dX7_init_5 (by decide) ?_
  refine x_bipush (pc := 7) dX7_init_7 (by decide) ?_
  refine y_newM (r := 89) (N := 6) (M := 8) (pc := 9) dX7_init_9 lc_multianewarray_X7_11 rfl rfl (by decide) (by decide) (fun j hj => ⟨hN _ (by omega) (by omega), by revert j; decide +kernel, by revert j; decide +kernel⟩) (hN 89 (by decide) (by decide)) (by decide) (by decide +kernel) (by decide +kernel) k_89 (by decide) ?_
  refine y_putFR (pc := 13) dX7_init_13 fp_X7_13 k_88 (Or.inl hr) rfl ?_
  refine x_aloadn (pc := 16) dX7_init_16 rfl ?_
  refine x_bipush (pc := 17) dX7_init_17 (by decide) ?_
  refine y_newI (N := 6) (q := 96) (pc := 19) dX7_init_19 rfl (by decide) (hN 96 (by decide) (by decide)) (by decide) (by decide +kernel) (by decide +kernel) k_96 (by decide) ?_
  refine y_putFR (pc := 21) dX7_init_21 fp_X7_16 k_88 (Or.inl hr) rfl ?_
  refine x_aloadn (pc := 24) dX7_init_24 rfl ?_
  refine x_bipush (pc := 25) dX7_init_25 (by decide) ?_
  refine y_newI (N := 8) (q := 97) (pc := 27) dX7_init_27 rfl (by decide) (hN 97 (by decide) (by decide)) (by decide) (by decide +kernel) (by decide +kernel) k_97 (by decide) ?_
  refine y_putFR (pc := 29) dX7_init_29 fp_X7_20 k_88 (Or.inl hr) rfl ?_
  refine x_aloadn (pc := 32) dX7_init_32 rfl ?_
  refine x_bipush (pc := 33) dX7_init_33 (by decide) ?_
  refine y_newI (N := 8) (q := 98) (pc := 35) dX7_init_35 rfl (by decide) (hN 98 (by decide) (by decide)) (by decide) (by decide +kernel) (by decide +kernel) k_98 (by decide) ?_
  refine y_putFR (pc := 37) dX7_init_37 fp_X7_23 k_88 (Or.inl hr) rfl ?_
  refine x_aloadn (pc := 40) dX7_init_40 rfl ?_
  refine x_iconst (pc := 41) dX7_init_41 ?_
  refine y_putI (pc := 42) dX7_init_42 fp_X7_26 k_88 (Or.inl hr) ?_
  refine x_aloadn (pc := 45) dX7_init_45 rfl ?_
  refine x_iconst (pc := 46) dX7_init_46 ?_
  refine y_putI (pc := 47) dX7_init_47 fp_X7_30 k_88 (Or.inl hr) ?_
  refine x_aloadn (pc := 50) dX7_init_50 rfl ?_
  refine x_iconst (pc := 51) dX7_init_51 ?_
  refine y_putZ (pc := 52) dX7_init_52 fp_X7_33 k_88 (Or.inl hr) (by decide) ?_
  exact y_ret dX7_init_55 rfl
def nw_99 : List Nat := [100]
def us_99 : List (Nat × Nat × Int) := [(99, 1, 0), (99, 0, 100)]
set_option maxRecDepth 20000 in
theorem k_init_99 {L : List Nat} {G : Nat → Nat → Int} (hr : 99 ∈ L) (hN : x_new 100 101 L) : CM yX10_init mX10_init 1 1 30 [vR 99] L G (qK L nw_99 us_99 G) := by
  refine Ct.of_X (μ := mX10_init) rfl rfl (by decide) (fun _ => rfl) (Nat.le_of_ble_eq_true rfl) rfl ?_
  refine y_start ?_
  refine x_aloadn (pc := 0) dX10_init_0 rfl ?_
  refine x_objI (pc := 1) dX10_init_1 lm_X10_3 (by decide) (Nat.le_of_ble_eq_true rfl) ?_
  refine x_aloadn (pc := 4) dX10_init_4 rfl ?_
  refine x_bipush (pc := 5) dX10_init_5 (by decide) ?_
  refine y_newI (N := 30) (q := 100) (pc := 7) dX10_init_7 rfl (by decide) (hN 100 (by decide) (by decide)) (by decide) (by decide +kernel) (by decide +kernel) k_100 (by decide) ?_
  refine y_putFR (pc := 9) dX10_init_9 fp_X10_11 k_99 (Or.inl hr) rfl ?_
  refine x_aloadn (pc := 12) dX10_init_12 rfl ?_
  refine x_iconst (pc := 13) dX10_init_13 ?_
  refine y_putI (pc := 14) dX10_init_14 fp_X10_15 k_99 (Or.inl hr) ?_
  exact y_ret dX10_init_17 rfl
def nw_101 : List Nat := [102, 103, 104, 105]
def us_101 : List (Nat × Nat × Int) := [(101, 5, 0), (101, 4, 0), (101, 3, 105), (101, 2, 104), (101, 1, 103), (101, 0, 102)]
set_option maxRecDepth 20000 in
theorem k_init_101 {L : List Nat} {G : Nat → Nat → Int} (hr : 101 ∈ L) (hN : x_new 102 106 L) : CM yX8_init mX8_init 1 4 24 [vR 101] L G (qK L nw_101 us_101 G) := by
  refine Ct.of_X (μ := mX8_init) rfl rfl (by decide) (fun _ => rfl) (Nat.le_of_ble_eq_true rfl) rfl ?_
  refine y_start ?_
  refine x_aloadn (pc := 0) dX8_init_0 rfl ?_
  refine x_objI (pc := 1) dX8_init_1 lm_X8_3 (by decide) (Nat.le_of_ble_eq_true rfl) ?_
  refine x_aloadn (pc := 4) dX8_init_4 rfl ?_
  refine x_bipush (pc := 5) dX8_init_5 (by decide) ?_
  refine y_newI (N := 12) (q := 102) (pc := 7) dX8_init_7 rfl (by decide) (hN 102 (by decide) (by decide)) (by decide) (by decide +kernel) (by decide +kernel) k_102 (by decide) ?_
  refine y_putFR (pc := 9) dX8_init_9 fp_X8_9 k_101 (Or.inl hr) rfl ?_
  refine x_aloadn (pc := 12) dX8_init_12 rfl ?_
  refine x_iconst (pc := 13) dX8_init_13 ?_
  refine y_newI (N := 4) (q := 103) (pc := 14) dX8_init_14 rfl (by decide) (hN 103 (by decide) (by decide)) (by decide) (by decide +kernel) (by decide +kernel) k_103 (by decide) ?_
  refine y_putFR (pc := 16) dX8_init_16 fp_X8_15 k_101 (Or.inl hr) rfl ?_
  refine x_aloadn (pc := 19) dX8_init_19 rfl ?_
  refine x_iconst (pc := 20) dX8_init_20 ?_
  refine y_newI (N := 4) (q := 104) (pc := 21) dX8_init_21 rfl (by decide) (hN 104 (by decide) (by decide)) (by decide) (by decide +kernel) (by decide +kernel) k_104 (by decide) ?_
  refine y_putFR (pc := 23) dX8_init_23 fp_X8_18 k_101 (Or.inl hr) rfl ?_
  refine x_aloadn (pc := 26) dX8_init_26 rfl ?_
  refine x_iconst (pc := 27) dX8_init_27 ?_
  refine y_newI (N := 4) (q := 105) (pc := 28) dX8_init_28 rfl (by decide) (hN 105 (by decide) (by decide)) (by decide) (by decide +kernel) (by decide +kernel) k_105 (by decide) ?_
  refine y_putFR (pc := 30) dX8_init_30 fp_X8_21 k_101 (Or.inl hr) rfl ?_
  refine x_aloadn (pc := 33) dX8_init_33 rfl ?_
  refine x_iconst (pc := 34) dX8_init_34 ?_
  refine y_putI (pc := 35) dX8_init_35 fp_X8_24 k_101 (Or.inl hr) ?_
  refine x_aloadn (pc := 38) dX8_init_38 rfl ?_
  refine x_iconst (pc := 39) dX8_init_39 ?_
  refine y_putI (pc := 40) dX8_init_40 fp_X8_28 k_101 (Or.inl hr) ?_
  exact y_ret dX8_init_43 rfl
def nw_106 : List Nat := [107]
def us_106 : List (Nat × Nat × Int) := [(106, 1, 0), (106, 0, 107)]
set_option maxRecDepth 20000 in
theorem k_init_106 {L : List Nat} {G : Nat → Nat → Int} (hr : 106 ∈ L) (hN : x_new 107 108 L) : CM yX10_init mX10_init 1 1 30 [vR 106] L G (qK L nw_106 us_106 G) := by
  refine Ct.of_X (μ := mX10_init) rfl rfl (by decide) (fun _ => rfl) (Nat.le_of_ble_eq_true rfl) rfl ?_
  refine y_start ?_
  refine x_aloadn (pc := 0) dX10_init_0 rfl ?_
  refine x_objI (pc := 1) dX10_init_1 lm_X10_3 (by decide) (Nat.le_of_ble_eq_true rfl) ?_
  refine x_aloadn (pc := 4) dX10_init_4 rfl ?_
  refine x_bipush (pc := 5) dX10_init_5 (by decide) ?_
  refine y_newI (N := 30) (q := 107) (pc := 7) dX10_init_7 rfl (by decide) (hN 107 (by decide) (by decide)) (by decide) (by decide +kernel) (by decide +kernel) k_107 (by decide) ?_
  refine y_putFR (pc := 9) dX10_init_9 fp_X10_11 k_106 (Or.inl hr) rfl ?_
  refine x_aloadn (pc := 12) dX10_init_12 rfl ?_
  refine x_iconst (pc := 13) dX10_init_13 ?_
  refine y_putI (pc := 14) dX10_init_14 fp_X10_15 k_106 (Or.inl hr) ?_
  exact y_ret dX10_init_17 rfl
def nw_108 : List Nat := [109, 110, 111, 112]
def us_108 : List (Nat × Nat × Int) := [(108, 5, 0), (108, 4, 0), (108, 3, 112), (108, 2, 111), (108, 1, 110), (108, 0, 109)]
set_option maxRecDepth 20000 in
theorem k_init_108 {L : List Nat} {G : Nat → Nat → Int} (hr : 108 ∈ L) (hN : x_new 109 113 L) : CM yX8_init mX8_init 1 4 24 [vR 108] L G (qK L nw_108 us_108 G) := by
  refine Ct.of_X (μ := mX8_init) rfl rfl (by decide) (fun _ => rfl) (Nat.le_of_ble_eq_true rfl) rfl ?_
  refine y_start ?_
  refine x_aloadn (pc := 0) dX8_init_0 rfl ?_
  refine x_objI (pc := 1) dX8_init_1 lm_X8_3 (by decide) (Nat.le_of_ble_eq_true rfl) ?_
  refine x_aloadn (pc := 4) dX8_init_4 rfl ?_
  refine x_bipush (pc := 5) dX8_init_5 (by decide) ?_
  refine y_newI (N := 12) (q := 109) (pc := 7) dX8_init_7 rfl (by decide) (hN 109 (by decide) (by decide)) (by decide) (by decide +kernel) (by decide +kernel) k_109 (by decide) ?_
  refine y_putFR (pc := 9) dX8_init_9 fp_X8_9 k_108 (Or.inl hr) rfl ?_
  refine x_aloadn (pc := 12) dX8_init_12 rfl ?_
  refine x_iconst (pc := 13) dX8_init_13 ?_
  refine y_newI (N := 4) (q := 110) (pc := 14) dX8_init_14 rfl (by decide) (hN 110 (by decide) (by decide)) (by decide) (by decide +kernel) (by decide +kernel) k_110 (by decide) ?_
  refine y_putFR (pc := 16) dX8_init_16 fp_X8_15 k_108 (Or.inl hr) rfl ?_
  refine x_aloadn (pc := 19) dX8_init_19 rfl ?_
  refine x_iconst (pc := 20) dX8_init_20 ?_
  refine y_newI (N := 4) (q := 111) (pc := 21) dX8_init_21 rfl (by decide) (hN 111 (by decide) (by decide)) (by decide) (by decide +kernel) (by decide +kernel) k_111 (by decide) ?_
  refine y_putFR (pc := 23) dX8_init_23 fp_X8_18 k_108 (Or.inl hr) rfl ?_
  refine x_aloadn (pc := 26) dX8_init_26 rfl ?_
  refine x_iconst (pc := 27) dX8_init_27 ?_
  refine y_newI (N := 4) (q := 112) (pc := 28) dX8_init_28 rfl (by decide) (hN 112 (by decide) (by decide)) (by decide) (by decide +kernel) (by decide +kernel) k_112 (by decide) ?_
  refine y_putFR (pc := 30) dX8_init_30 fp_X8_21 k_108 (Or.inl hr) rfl ?_
  refine x_aloadn (pc := 33) dX8_init_33 rfl ?_
  refine x_iconst (pc := 34) dX8_init_34 ?_
  refine y_putI (pc := 35) dX8_init_35 fp_X8_24 k_108 (Or.inl hr) ?_
  refine x_aloadn (pc := 38) dX8_init_38 rfl ?_
  refine x_iconst (pc := 39) dX8_init_39 ?_
  refine y_putI (pc := 40) dX8_init_40 fp_X8_28 k_108 (Or.inl hr) ?_
  exact y_ret dX8_init_43 rfl
def nw_113 : List Nat := [114]
def us_113 : List (Nat × Nat × Int) := [(113, 1, 0), (113, 0, 114)]
set_option maxRecDepth 20000 in
theorem k_init_113 {L : List Nat} {G : Nat → Nat → Int} (hr : 113 ∈ L) (hN : x_new 114 115 L) : CM yX10_init mX10_init 1 1 30 [vR 113] L G (qK L nw_113 us_113 G) := by
  refine Ct.of_X (μ := mX10_init) rfl rfl (by decide) (fun _ => rfl) (Nat.le_of_ble_eq_true rfl) rfl ?_
  refine y_start ?_
  refine x_aloadn (pc := 0) dX10_init_0 rfl ?_
  refine x_objI (pc := 1) dX10_init_1 lm_X10_3 (by decide) (Nat.le_of_ble_eq_true rfl) ?_
  refine x_aloadn (pc := 4) dX10_init_4 rfl ?_
  refine x_bipush (pc := 5) dX10_init_5 (by decide) ?_
  refine y_newI (N := 30) (q := 114) (pc := 7) dX10_init_7 rfl (by decide) (hN 114 (by decide) (by decide)) (by decide) (by decide +kernel) (by decide +kernel) k_114 (by decide) ?_
  refine y_putFR (pc := 9) dX10_init_9 fp_X10_11 k_113 (Or.inl hr) rfl ?_
  refine x_aloadn (pc := 12) dX10_init_12 rfl ?_
  refine x_iconst (pc := 13) dX10_init_13 ?_
  refine y_putI (pc := 14) dX10_init_14 fp_X10_15 k_113 (Or.inl hr) ?_
  exact y_ret dX10_init_17 rfl
def nw_115 : List Nat := [116, 117, 118, 119]
def us_115 : List (Nat × Nat × Int) := [(115, 5, 0), (115, 4, 0), (115, 3, 119), (115, 2, 118), (115, 1, 117), (115, 0, 116)]
set_option maxRecDepth 20000 in
theorem k_init_115 {L : List Nat} {G : Nat → Nat → Int} (hr : 115 ∈ L) (hN : x_new 116 120 L) : CM yX8_init mX8_init 1 4 24 [vR 115] L G (qK L nw_115 us_115 G) := by
  refine Ct.of_X (μ := mX8_init) rfl rfl (by decide) (fun _ => rfl) (Nat.le_of_ble_eq_true rfl) rfl ?_
  refine y_start ?_
  refine x_aloadn (pc := 0) dX8_init_0 rfl ?_
  refine x_objI (pc := 1) dX8_init_1 lm_X8_3 (by decide) (Nat.le_of_ble_eq_true rfl) ?_
  refine x_aloadn (pc := 4) dX8_init_4 rfl ?_
  refine x_bipush (pc := 5) dX8_init_5 (by decide) ?_
  refine y_newI (N := 12) (q := 116) (pc := 7) dX8_init_7 rfl (by decide) (hN 116 (by decide) (by decide)) (by decide) (by decide +kernel) (by decide +kernel) k_116 (by decide) ?_
  refine y_putFR (pc := 9) dX8_init_9 fp_X8_9 k_115 (Or.inl hr) rfl ?_
  refine x_aloadn (pc := 12) dX8_init_12 rfl ?_
  refine x_iconst (pc := 13) dX8_init_13 ?_
  refine y_newI (N := 4) (q := 117) (pc := 14) dX8_init_14 rfl (by decide) (hN 117 (by decide) (by decide)) (by decide) (by decide +kernel) (by decide +kernel) k_117 (by decide) ?_
  refine y_putFR (pc := 16) dX8_init_16 fp_X8_15 k_115 (Or.inl hr) rfl ?_
  refine x_aloadn (pc := 19) dX8_init_19 rfl ?_
  refine x_iconst (pc := 20) dX8_init_20 ?_
  refine y_newI (N := 4) (q := 118) (pc := 21) dX8_init_21 rfl (by decide) (hN 118 (by decide) (by decide)) (by decide) (by decide +kernel) (by decide +kernel) k_118 (by decide) ?_
  refine y_putFR (pc := 23) dX8_init_23 fp_X8_18 k_115 (Or.inl hr) rfl ?_
  refine x_aloadn (pc := 26) dX8_init_26 rfl ?_
  refine x_iconst (pc := 27) dX8_init_27 ?_
  refine y_newI (N := 4) (q := 119) (pc := 28) dX8_init_28 rfl (by decide) (hN 119 (by decide) (by decide)) (by decide) (by decide +kernel) (by decide +kernel) k_119 (by decide) ?_
  refine y_putFR (pc := 30) dX8_init_30 fp_X8_21 k_115 (Or.inl hr) rfl ?_
  refine x_aloadn (pc := 33) dX8_init_33 rfl ?_
  refine x_iconst (pc := 34) dX8_init_34 ?_
  refine y_putI (pc := 35) dX8_init_35 fp_X8_24 k_115 (Or.inl hr) ?_
  refine x_aloadn (pc := 38) dX8_init_38 rfl ?_
  refine x_iconst (pc := 39) dX8_init_39 ?_
  refine y_putI (pc := 40) dX8_init_40 fp_X8_28 k_115 (Or.inl hr) ?_
  exact y_ret dX8_init_43 rfl
def nw_120 : List Nat := [121]
def us_120 : List (Nat × Nat × Int) := [(120, 1, 0), (120, 0, 121)]
set_option maxRecDepth 20000 in
theorem k_init_120 {L : List Nat} {G : Nat → Nat → Int} (hr : 120 ∈ L) (hN : x_new 121 122 L) : CM yX10_init mX10_init 1 1 30 [vR 120] L G (qK L nw_120 us_120 G) := by
  refine Ct.of_X (μ := mX10_init) rfl rfl (by decide) (fun _ => rfl) (Nat.le_of_ble_eq_true rfl) rfl ?_
  refine y_start ?_
  refine x_aloadn (pc := 0) dX10_init_0 rfl ?_
  refine x_objI (pc := 1) dX10_init_1 lm_X10_3 (by decide) (Nat.le_of_ble_eq_true rfl) ?_
  refine x_aloadn (pc := 4) dX10_init_4 rfl ?_
  refine x_bipush (pc := 5) dX10_init_5 (by decide) ?_
  refine y_newI (N := 30) (q := 121) (pc := 7) dX10_init_7 rfl (by decide) (hN 121 (by decide) (by decide)) (by decide) (by decide +kernel) (by decide +kernel) k_121 (by decide) ?_
  refine y_putFR (pc := 9) dX10_init_9 fp_X10_11 k_120 (Or.inl hr) rfl ?_
  refine x_aloadn (pc := 12) dX10_init_12 rfl ?_
  refine x_iconst (pc := 13) dX10_init_13 ?_
  refine y_putI (pc := 14) dX10_init_14 fp_X10_15 k_120 (Or.inl hr) ?_
  exact y_ret dX10_init_17 rfl
def nw_122 : List Nat := [123, 124, 125, 126]
def us_122 : List (Nat × Nat × Int) := [(122, 5, 0), (122, 4, 0), (122, 3, 126), (122, 2, 125), (122, 1, 124), (122, 0, 123)]
set_option maxRecDepth 20000 in
theorem k_init_122 {L : List Nat} {G : Nat → Nat → Int} (hr : 122 ∈ L) (hN : x_new 123 127 L) : CM yX8_init mX8_init 1 4 24 [vR 122] L G (qK L nw_122 us_122 G) := by
  refine Ct.of_X (μ := mX8_init) rfl rfl (by decide) (fun _ => rfl) (Nat.le_of_ble_eq_true rfl) rfl ?_
  refine y_start ?_
  refine x_aloadn (pc := 0) dX8_init_0 rfl ?_
  refine x_objI (pc := 1) dX8_init_1 lm_X8_3 (by decide) (Nat.le_of_ble_eq_true rfl) ?_
  refine x_aloadn (pc := 4) dX8_init_4 rfl ?_
  refine x_bipush (pc := 5) dX8_init_5 (by decide) ?_
  refine y_newI (N := 12) (q := 123) (pc := 7) dX8_init_7 rfl (by decide) (hN 123 (by decide) (by decide)) (by decide) (by decide +kernel) (by decide +kernel) k_123 (by decide) ?_
  refine y_putFR (pc := 9) dX8_init_9 fp_X8_9 k_122 (Or.inl hr) rfl ?_
  refine x_aloadn (pc := 12) dX8_init_12 rfl ?_
  refine x_iconst (pc := 13) dX8_init_13 ?_
  refine y_newI (N := 4) (q := 124) (pc := 14) dX8_init_14 rfl (by decide) (hN 124 (by decide) (by decide)) (by decide) (by decide +kernel) (by decide +kernel) k_124 (by decide) ?_
  refine y_putFR (pc := 16) dX8_init_16 fp_X8_15 k_122 (Or.inl hr) rfl ?_
  refine x_aloadn (pc := 19) dX8_init_19 rfl ?_
  refine x_iconst (pc := 20) dX8_init_20 ?_
  refine y_newI (N := 4) (q := 125) (pc := 21) dX8_init_21 rfl (by decide) (hN 125 (by decide) (by decide)) (by decide) (by decide +kernel) (by decide +kernel) k_125 (by decide) ?_
  refine y_putFR (pc := 23) dX8_init_23 fp_X8_18 k_122 (Or.inl hr) rfl ?_
  refine x_aloadn (pc := 26) dX8_init_26 rfl ?_
  refine x_iconst (pc := 27) dX8_init_27 ?_
  refine y_newI (N := 4) (q := 126) (pc := 28) dX8_init_28 rfl (by decide) (hN 126 (by decide) (by decide)) (by decide) (by decide +kernel) (by decide +kernel) k_126 (by decide) ?_
  refine y_putFR (pc := 30) dX8_init_30 fp_X8_21 k_122 (Or.inl hr) rfl ?_
  refine x_aloadn (pc := 33) dX8_init_33 rfl ?_
  refine x_iconst (pc := 34) dX8_init_34 ?_
  refine y_putI (pc := 35) dX8_init_35 fp_X8_24 k_122 (Or.inl hr) ?_
  refine x_aloadn (pc := 38) dX8_init_38 rfl ?_
  refine x_iconst (pc := 39) dX8_init_39 ?_
  refine y_putI (pc := 40) dX8_init_40 fp_X8_28 k_122 (Or.inl hr) ?_
  exact y_ret dX8_init_43 rfl

