/-! answers and chases are made -/
def nw_56 : List Nat := [57, 58]
def us_56 : List (Nat × Nat × Int) := [(56, 2, 0), (56, 1, 58), (56, 0, 57)]
set_option maxRecDepth 20000 in
theorem k_init_56 {L : List Nat} {G : Nat → Nat → Int} (hr : 56 ∈ L) (hN : x_new 57 59 L) : CM yX0_init mX0_init 1 2 120 [vR 56] L G (qK L nw_56 us_56 G) := by
  refine Ct.of_X (μ := mX0_init) rfl rfl (by decide) (fun _ => rfl) (Nat.le_of_ble_eq_true rfl) rfl ?_
  refine y_start ?_
  refine x_aloadn (pc := 0) dX0_init_0 rfl ?_
  refine x_objI (pc := 1) dX0_init_1 lm_X0_3 (by decide) (Nat.le_of_ble_eq_true rfl) ?_
  refine x_aloadn (pc := 4) dX0_init_4 rfl ?_
  refine x_bipush (pc := 5) dX0_init_5 (by decide) ?_
  refine y_newI (N := 60) (q := 57) (pc := 7) dX0_init_7 rfl (by decide) (hN 57 (by decide) (by decide)) (by decide) (by decide +kernel) (by decide +kernel) k_57 (by decide) ?_
  refine y_putFR (pc := 9) dX0_init_9 fp_X0_9 k_56 (Or.inl hr) rfl ?_
  refine x_aloadn (pc := 12) dX0_init_12 rfl ?_
  refine x_bipush (pc := 13) dX0_init_13 (by decide) ?_
  refine y_newI (N := 60) (q := 58) (pc := 15) dX0_init_15 rfl (by decide) (hN 58 (by decide) (by decide)) (by decide) (by decide +kernel) (by decide +kernel) k_58 (by decide) ?_
  refine y_putFR (pc := 17) dX0_init_17 fp_X0_15 k_56 (Or.inl hr) rfl ?_
  refine x_aloadn (pc := 20) dX0_init_20 rfl ?_
  refine x_iconst (pc := 21) dX0_init_21 ?_
  refine y_putI (pc := 22) dX0_init_22 fp_X0_18 k_56 (Or.inl hr) ?_
  exact y_ret dX0_init_25 rfl
def nw_55 : List Nat := [56, 57, 58, 59, 60, 61, 62, 63]
def us_55 : List (Nat × Nat × Int) := [(55, 6, 0), (55, 5, 63), (55, 4, 62), (55, 3, 61), (55, 2, 60), (55, 1, 59), (55, 0, 56), (56, 2, 0), (56, 1, 58), (56, 0, 57)]
set_option maxRecDepth 20000 in
theorem k_init_55 {L : List Nat} {G : Nat → Nat → Int} (hr : 55 ∈ L) (hN : x_new 56 64 L) : CM yX4_init mX4_init 2 8 358 [vR 55] L G (qK L nw_55 us_55 G) := by
  refine Ct.of_X (μ := mX4_init) rfl rfl (by decide) (fun _ => rfl) (Nat.le_of_ble_eq_true rfl) rfl ?_
  refine y_start ?_
  refine x_aloadn (pc := 0) dX4_init_0 rfl ?_
  refine x_objI (pc := 1) dX4_init_1 lm_X4_3 (by decide) (Nat.le_of_ble_eq_true rfl) ?_
  refine x_aloadn (pc := 4) dX4_init_4 rfl ?_
  refine y_newO (q := 56) (pc := 5) dX4_init_5 rfl inX0 tyX0_ok lc_new_X4_9 ln_X0 lt_X0 (by decide) ftX0 (hN 56 (by decide) (by decide)) (by decide) (by decide +kernel) (by decide +kernel) k_56 (by decide) ?_
  refine x_dup (pc := 8) dX4_init_8 (fun h => by cases h) ?_
  refine y_callIN (pc := 9) dX4_init_9 lk_X4_11 (k_init_56 (List.mem_append.mpr (Or.inr (by decide +kernel))) ((hN.mono (by decide) (by decide)).app (by decide +kernel))) (Or.inr (by decide +kernel)) ⟨by decide, by decide⟩ (by decide) (Nat.le_of_ble_eq_true rfl) (by decide +kernel) ?_
  refine y_putFR (pc := 12) dX4_init_12 fp_X4_12 k_55 (Or.inl hr) rfl ?_
  refine x_aloadn (pc := 15) dX4_init_15 rfl ?_
  refine x_iconst (pc := 16) dX4_init_16 ?_
  refine y_newI (N := 4) (q := 59) (pc := 17) dX4_init_17 rfl (by decide) (hN 59 (by decide) (by decide)) (by decide) (by decide +kernel) (by decide +kernel) k_59 (by decide) ?_
  refine y_putFR (pc := 19) dX4_init_19 fp_X4_18 k_55 (Or.inl hr) rfl ?_
  refine x_aloadn (pc := 22) dX4_init_22 rfl ?_
  refine x_iconst (pc := 23) dX4_init_23 ?_
  refine y_newI (N := 4) (q := 60) (pc := 24) dX4_init_24 rfl (by decide) (hN 60 (by decide) (by decide)) (by decide) (by decide +kernel) (by decide +kernel) k_60 (by decide) ?_
  refine y_putFR (pc := 26) dX4_init_26 fp_X4_22 k_55 (Or.inl hr) rfl ?_
  refine x_aloadn (pc := 29) dX4_init_29 rfl ?_
  refine x_bipush (pc := 30) dX4_init_30 (by decide) ?_
  refine y_newI (N := 35) (q := 61) (pc := 32) dX4_init_32 rfl (by decide) (hN 61 (by decide) (by decide)) (by decide) (by decide +kernel) (by decide +kernel) k_61 (by decide) ?_
  refine y_putFR (pc := 34) dX4_init_34 fp_X4_25 k_55 (Or.inl hr) rfl ?_
  refine x_aloadn (pc := 37) dX4_init_37 rfl ?_
  refine x_bipush (pc := 38) dX4_init_38 (by decide) ?_
  refine y_newI (N := 96) (q := 62) (pc := 40) dX4_init_40 rfl (by decide) (hN 62 (by decide) (by decide)) (by decide) (by decide +kernel) (by decide +kernel) k_62 (by decide) ?_
  refine y_putFR (pc := 42) dX4_init_42 fp_X4_28 k_55 (Or.inl hr) rfl ?_
  refine x_aloadn (pc := 45) dX4_init_45 rfl ?_
  refine x_bipush (pc := 46) dX4_init_46 (by decide) ?_
  refine y_newI (N := 96) (q := 63) (pc := 48) dX4_init_48 rfl (by decide) (hN 63 (by decide) (by decide)) (by decide) (by decide +kernel) (by decide +kernel) k_63 (by decide) ?_
  refine y_putFR (pc := 50) dX4_init_50 fp_X4_31 k_55 (Or.inl hr) rfl ?_
  refine x_aloadn (pc := 53) dX4_init_53 rfl ?_
  refine x_iconst (pc := 54) dX4_init_54 ?_
  refine y_putI (pc := 55) dX4_init_55 fp_X4_34 k_55 (Or.inl hr) ?_
  exact y_ret dX4_init_58 rfl
def nw_46 : List Nat := [47, 48, 49, 50, 51, 52, 53, 54, 55, 56, 57, 58, 59, 60, 61, 62, 63, 64, 65]
def us_46 : List (Nat × Nat × Int) := [(49, 3, 7), (49, 2, 7), (49, 1, 7), (49, 0, 7), (48, 3, 4), (48, 2, 4), (48, 1, 4), (48, 0, 4), (46, 13, 0), (46, 12, 0), (46, 11, 0), (46, 10, 65), (46, 9, 64), (46, 8, 55), (55, 6, 0), (55, 5, 63), (55, 4, 62), (55, 3, 61), (55, 2, 60), (55, 1, 59), (55, 0, 56), (56, 2, 0), (56, 1, 58), (56, 0, 57), (46, 7, 54), (46, 6, 53), (46, 5, 52), (46, 4, 51), (46, 3, 50), (46, 2, 49), (46, 1, 48), (46, 0, 47)]
set_option maxRecDepth 20000 in
theorem k_init_46 {L : List Nat} {G : Nat → Nat → Int} (hr : 46 ∈ L) (hN : x_new 47 66 L) : CM yX1_init mX1_init 3 19 425 [vR 46] L G (qK L nw_46 us_46 G) := by
  refine Ct.of_X (μ := mX1_init) rfl rfl (by decide) (fun _ => rfl) (Nat.le_of_ble_eq_true rfl) rfl ?_
  refine y_start ?_
  refine x_aloadn (pc := 0) dX1_init_0 rfl ?_
  refine x_objI (pc := 1) dX1_init_1 lm_X1_3 (by decide) (Nat.le_of_ble_eq_true rfl) ?_
  refine x_aloadn (pc := 4) dX1_init_4 rfl ?_
  refine x_iconst (pc := 5) dX1_init_5 ?_
  refine y_newI (N := 4) (q := 47) (pc := 6) dX1_init_6 rfl (by decide) (hN 47 (by decide) (by decide)) (by decide) (by decide +kernel) (by decide +kernel) k_47 (by decide) ?_
  refine y_putFR (pc := 8) dX1_init_8 fp_X1_9 k_46 (Or.inl hr) rfl ?_
  refine x_aloadn (pc := 11) dX1_init_11 rfl ?_
  refine x_iconst (pc := 12) dX1_init_12 ?_
  refine y_newI (N := 4) (q := 48) (pc := 13) dX1_init_13 rfl (by decide) (hN 48 (by decide) (by decide)) (by decide) (by decide +kernel) (by decide +kernel) k_48 (by decide) ?_
  refine y_putFR (pc := 15) dX1_init_15 fp_X1_15 k_46 (Or.inl hr) rfl ?_
  refine x_aloadn (pc := 18) dX1_init_18 rfl ?_
  refine x_iconst (pc := 19) dX1_init_19 ?_
  refine y_newI (N := 4) (q := 49) (pc := 20) dX1_init_20 rfl (by decide) (hN 49 (by decide) (by decide)) (by decide) (by decide +kernel) (by decide +kernel) k_49 (by decide) ?_
  refine y_putFR (pc := 22) dX1_init_22 fp_X1_18 k_46 (Or.inl hr) rfl ?_
  refine x_aloadn (pc := 25) dX1_init_25 rfl ?_
  refine x_iconst (pc := 26) dX1_init_26 ?_
  refine y_newI (N := 4) (q := 50) (pc := 27) dX1_init_27 rfl (by decide) (hN 50 (by decide) (by decide)) (by decide) (by decide +kernel) (by decide +kernel) k_50 (by decide) ?_
  refine y_putFR (pc := 29) dX1_init_29 fp_X1_21 k_46 (Or.inl hr) rfl ?_
  refine x_aloadn (pc := 32) dX1_init_32 rfl ?_
  refine x_iconst (pc := 33) dX1_init_33 ?_
  refine y_newI (N := 4) (q := 51) (pc := 34) dX1_init_34 rfl (by decide) (hN 51 (by decide) (by decide)) (by decide) (by decide +kernel) (by decide +kernel) k_51 (by decide) ?_
  refine y_putFR (pc := 36) dX1_init_36 fp_X1_24 k_46 (Or.inl hr) rfl ?_
  refine x_aloadn (pc := 39) dX1_init_39 rfl ?_
  refine x_iconst (pc := 40) dX1_init_40 ?_
  refine y_newI (N := 4) (q := 52) (pc := 41) dX1_init_41 rfl (by decide) (hN 52 (by decide) (by decide)) (by decide) (by decide +kernel) (by decide +kernel) k_52 (by decide) ?_
  refine y_putFR (pc := 43) dX1_init_43 fp_X1_27 k_46 (Or.inl hr) rfl ?_
  refine x_aloadn (pc := 46) dX1_init_46 rfl ?_
  refine x_iconst (pc := 47) dX1_init_47 ?_
  refine y_newI (N := 4) (q := 53) (pc := 48) dX1_init_48 rfl (by decide) (hN 53 (by decide) (by decide)) (by decide) (by decide +kernel) (by decide +kernel) k_53 (by decide) ?_
  refine y_putFR (pc := 50) dX1_init_50 fp_X1_30 k_46 (Or.inl hr) rfl ?_
  refine x_aloadn (pc := 53) dX1_init_53 rfl ?_
  refine x_bipush (pc := 54) dX1_init_54 (by decide) ?_
  refine y_newI (N := 32) (q := 54) (pc := 56) dX1_init_56 rfl (by decide) (hN 54 (by decide) (by decide)) (by decide) (by decide +kernel) (by decide +kernel) k_54 (by decide) ?_
  refine y_putFR (pc := 58) dX1_init_58 fp_X1_33 k_46 (Or.inl hr) rfl ?_
  refine x_aloadn (pc := 61) dX1_init_61 rfl ?_
  refine y_newO (q := 55) (pc := 62) dX1_init_62 rfl inX4 tyX4_ok lc_new_X1_36 ln_X4 lt_X4 (by decide) ftX4 (hN 55 (by decide) (by decide)) (by decide) (by decide +kernel) (by decide +kernel) k_55 (by decide) ?_
  refine x_dup (pc := 65) dX1_init_65 (fun h => by cases h) ?_
  refine y_callIN (pc := 66) dX1_init_66 lk_X1_38 (k_init_55 (List.mem_append.mpr (Or.inr (by decide +kernel))) ((hN.mono (by decide) (by decide)).app (by decide +kernel))) (Or.inr (by decide +kernel)) ⟨by decide, by decide⟩ (by decide) (Nat.le_of_ble_eq_true rfl) (by decide +kernel) ?_
  refine y_putFR (pc := 69) dX1_init_69 fp_X1_39 k_46 (Or.inl hr) rfl ?_
  refine x_aloadn (pc := 72) dX1_init_72 rfl ?_
  refine x_iconst (pc := 73) dX1_init_73 ?_
  refine y_newI (N := 0) (q := 64) (pc := 74) dX1_init_74 rfl (by decide) (hN 64 (by decide) (by decide)) (by decide) (by decide +kernel) (by decide +kernel) k_64 (by decide) ?_
  refine y_putR (pc := 76) dX1_init_76 fp_X1_43 k_46 (Or.inl hr) ?_
  refine x_aloadn (pc := 79) dX1_init_79 rfl ?_
  refine x_iconst (pc := 80) dX1_init_80 ?_
  refine y_newJ (N := 0) (q := 65) (pc := 81) dX1_init_81 rfl (by decide) (hN 65 (by decide) (by decide)) (by decide) (by decide +kernel) (by decide +kernel) k_65 (by decide) ?_
  refine y_putR (pc := 83) dX1_init_83 fp_X1_46 k_46 (Or.inl hr) ?_
  refine x_aloadn (pc := 86) dX1_init_86 rfl ?_
  refine x_iconst (pc := 87) dX1_init_87 ?_
  refine y_putI (pc := 88) dX1_init_88 fp_X1_50 k_46 (Or.inl hr) ?_
  refine x_aloadn (pc := 91) dX1_init_91 rfl ?_
  refine x_lconst (x := 0) (pc := 92) dX1_init_92 (by decide) ?_
  refine y_putL (pc := 93) dX1_init_93 fp_X1_54 k_46 (Or.inl hr) ?_
  refine x_aloadn (pc := 96) dX1_init_96 rfl ?_
  refine x_iconst (pc := 97) dX1_init_97 ?_
  refine y_putZ (pc := 98) dX1_init_98 fp_X1_58 k_46 (Or.inl hr) (by decide) ?_
  refine x_aloadn (pc := 101) dX1_init_101 rfl ?_
  refine y_getR 48 (pc := 102) dX1_init_102 fl_X1_15 k_46 (Or.inl hr) (by decide +kernel) ?_
  refine x_iconst (pc := 105) dX1_init_105 ?_
  refine y_callS (as := [vR 48, vI 4]) (pc := 106) dX1_init_106 lk_X1_62 (k_fill4 k_48 (List.mem_append.mpr (Or.inr (by decide +kernel)))) ⟨by decide, by decide⟩ (by decide) (Nat.le_of_ble_eq_true rfl) rfl ?_
  refine x_aloadn (pc := 109) dX1_init_109 rfl ?_
  refine y_getR 49 (pc := 110) dX1_init_110 fl_X1_18 k_46 (Or.inl hr) (by decide +kernel) ?_
  refine x_bipush (pc := 113) dX1_init_113 (by decide) ?_
  refine y_callS (as := [vR 49, vI 7]) (pc := 115) dX1_init_115 lk_X1_62 (k_fill4 k_49 (List.mem_append.mpr (Or.inr (by decide +kernel)))) ⟨by decide, by decide⟩ (by decide) (Nat.le_of_ble_eq_true rfl) rfl ?_
  exact y_ret dX1_init_118 rfl
def nw_66 : List Nat := [67, 68, 69, 70, 71, 73, 74, 75, 76, 72, 77, 79, 80, 81, 82, 78]
def us_66 : List (Nat × Nat × Int) := [(66, 8, -1), (66, 7, 78), (78, 0, 79), (78, 1, 80), (78, 2, 81), (78, 3, 82), (66, 6, 77), (66, 5, 72), (72, 0, 73), (72, 1, 74), (72, 2, 75), (72, 3, 76), (66, 4, 71), (66, 3, 70), (66, 2, 69), (66, 1, 68), (66, 0, 67)]
set_option maxRecDepth 20000 in
theorem k_init_66 {L : List Nat} {G : Nat → Nat → Int} (hr : 66 ∈ L) (hN : x_new 67 83 L) : CM yX2_init mX2_init 1 16 1232 [vR 66] L G (qK L nw_66 us_66 G) := by
  refine Ct.of_X (μ := mX2_init) rfl rfl (by decide) (fun _ => rfl) (Nat.le_of_ble_eq_true rfl) rfl ?_
  refine y_start ?_
  refine x_aloadn (pc := 0) dX2_init_0 rfl ?_
  refine x_objI (pc := 1) dX2_init_1 lm_X2_3 (by decide) (Nat.le_of_ble_eq_true rfl) ?_
  refine x_aloadn (pc := 4) dX2_init_4 rfl ?_
  refine x_iconst (pc := 5) dX2_init_5 ?_
  refine y_newZ (N := 4) (q := 67) (pc := 6) dX2_init_6 rfl (by decide) (hN 67 (by decide) (by decide)) (by decide) (by decide +kernel) (by decide +kernel) k_67 (by decide) ?_
  refine y_putFR (pc := 8) dX2_init_8 fp_X2_9 k_66 (Or.inl hr) rfl ?_
  refine x_aloadn (pc := 11) dX2_init_11 rfl ?_
  refine x_iconst (pc := 12) dX2_init_12 ?_
  refine y_newI (N := 4) (q := 68) (pc := 13) dX2_init_13 rfl (by decide) (hN 68 (by decide) (by decide)) (by decide) (by decide +kernel) (by decide +kernel) k_68 (by decide) ?_
  refine y_putFR (pc := 15) dX2_init_15 fp_X2_15 k_66 (Or.inl hr) rfl ?_
  refine x_aloadn (pc := 18) dX2_init_18 rfl ?_
  refine x_iconst (pc := 19) dX2_init_19 ?_
  refine y_newI (N := 4) (q := 69) (pc := 20) dX2_init_20 rfl (by decide) (hN 69 (by decide) (by decide)) (by decide) (by decide +kernel) (by decide +kernel) k_69 (by decide) ?_
  refine y_putFR (pc := 22) dX2_init_22 fp_X2_19 k_66 (Or.inl hr) rfl ?_
  refine x_aloadn (pc := 25) dX2_init_25 rfl ?_
  refine x_iconst (pc := 26) dX2_init_26 ?_
  refine y_newI (N := 4) (q := 70) (pc := 27) dX2_init_27 rfl (by decide) (hN 70 (by decide) (by decide)) (by decide) (by decide +kernel) (by decide +kernel) k_70 (by decide) ?_
  refine y_putFR (pc := 29) dX2_init_29 fp_X2_22 k_66 (Or.inl hr) rfl ?_
  refine x_aloadn (pc := 32) dX2_init_32 rfl ?_
  refine x_iconst (pc := 33) dX2_init_33 ?_
  refine y_newI (N := 4) (q := 71) (pc := 34) dX2_init_34 rfl (by decide) (hN 71 (by decide) (by decide)) (by decide) (by decide +kernel) (by decide +kernel) k_71 (by decide) ?_
  refine y_putFR (pc := 36) dX2_init_36 fp_X2_25 k_66 (Or.inl hr) rfl ?_
  refine x_aloadn (pc := 39) dX2_init_39 rfl ?_
  refine x_iconst (pc := 40) dX2_init_40 ?_
  refine x_sipush (pc := 41) dX2_init_41 (by decide) ?_
  refine y_newM (r := 72) (N := 4) (M := 300) (pc := 44) dX2_init_44 lc_multianewarray_X2_28 rfl rfl (by decide) (by decide) (fun j hj => ⟨hN _ (by omega) (by omega), by revert j; decide +kernel, by revert j; decide +kernel⟩) (hN 72 (by decide) (by decide)) (by decide) (by decide +kernel) (by decide +kernel) k_72 (by decide) ?_
  refine y_putFR (pc := 48) dX2_init_48 fp_X2_30 k_66 (Or.inl hr) rfl ?_
  refine x_aloadn (pc := 51) dX2_init_51 rfl ?_
  refine x_iconst (pc := 52) dX2_init_52 ?_
  refine y_newI (N := 4) (q := 77) (pc := 53) dX2_init_53 rfl (by decide) (hN 77 (by decide) (by decide)) (by decide) (by decide +kernel) (by decide +kernel) k_77 (by decide) ?_
  refine y_putFR (pc := 55) dX2_init_55 fp_X2_33 k_66 (Or.inl hr) rfl ?_
  refine x_aloadn (pc := 58) dX2_init_58 rfl ?_
  refine x_iconst (pc := 59) dX2_init_59 ?_
  refine x_iconst (pc := 60) dX2_init_60 ?_
  refine y_newM (r := 78) (N := 4) (M := 0) (pc := 61) dX2_init_61 lc_multianewarray_X2_28 rfl rfl (by decide) (by decide) (fun j hj => ⟨hN _ (by omega) (by omega), by revert j; decide +kernel, by revert j; decide +kernel⟩) (hN 78 (by decide) (by decide)) (by decide) (by decide +kernel) (by decide +kernel) k_78 (by decide) ?_
  refine y_putFR (pc := 65) dX2_init_65 fp_X2_36 k_66 (Or.inl hr) rfl ?_
  refine x_aloadn (pc := 68) dX2_init_68 rfl ?_
  refine x_null (pc := 69) dX2_init_69 ?_
  refine y_putN (pc := 70) dX2_init_70 fp_X2_39 k_66 (Or.inl hr) ?_
  exact y_ret dX2_init_73 rfl

