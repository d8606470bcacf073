/-! the class is made -/
def nw_1 : List Nat := [2, 3, 4, 5, 6, 7, 8, 9, 10, 11, 12, 13, 14, 15, 16, 17, 18, 19, 20, 21, 22, 23, 24, 25, 26, 27, 28, 29, 30, 31, 32, 33, 34, 35, 36, 37, 38, 39, 40, 41, 42, 43, 44, 45, 46, 47, 48, 49, 50, 51, 52, 53, 54, 55, 56, 57, 58, 59, 60, 61, 62, 63, 64, 65, 66, 67, 68, 69, 70, 71, 73, 74, 75, 76, 72, 77, 79, 80, 81, 82, 78, 83, 84, 85, 86, 87, 88, 90, 91, 92, 93, 94, 95, 89, 96, 97, 98, 99, 100, 101, 102, 103, 104, 105, 106, 107, 108, 109, 110, 111, 112, 113, 114, 115, 116, 117, 118, 119, 120, 121, 122, 123, 124, 125, 126]
def us_1 : List (Nat × Nat × Int) := [(87, 3, 122), (122, 5, 0), (122, 4, 0), (122, 3, 126), (122, 2, 125), (122, 1, 124), (122, 0, 123), (83, 3, 120), (120, 1, 0), (120, 0, 121), (87, 2, 115), (115, 5, 0), (115, 4, 0), (115, 3, 119), (115, 2, 118), (115, 1, 117), (115, 0, 116), (83, 2, 113), (113, 1, 0), (113, 0, 114), (87, 1, 108), (108, 5, 0), (108, 4, 0), (108, 3, 112), (108, 2, 111), (108, 1, 110), (108, 0, 109), (83, 1, 106), (106, 1, 0), (106, 0, 107), (87, 0, 101), (101, 5, 0), (101, 4, 0), (101, 3, 105), (101, 2, 104), (101, 1, 103), (101, 0, 102), (83, 0, 99), (99, 1, 0), (99, 0, 100), (1, 7, 88), (88, 6, 0), (88, 5, 0), (88, 4, 0), (88, 3, 98), (88, 2, 97), (88, 1, 96), (88, 0, 89), (89, 0, 90), (89, 1, 91), (89, 2, 92), (89, 3, 93), (89, 4, 94), (89, 5, 95), (1, 6, 87), (1, 5, 84), (84, 2, 0), (84, 1, 86), (84, 0, 85), (1, 4, 83), (1, 3, 66), (66, 8, -1), (66, 7, 78), (78, 0, 79), (78, 1, 80), (78, 2, 81), (78, 3, 82), (66, 6, 77), (66, 5, 72), (72, 0, 73), (72, 1, 74), (72, 2, 75), (72, 3, 76), (66, 4, 71), (66, 3, 70), (66, 2, 69), (66, 1, 68), (66, 0, 67), (1, 2, 46), (49, 3, 7), (49, 2, 7), (49, 1, 7), (49, 0, 7), (48, 3, 4), (48, 2, 4), (48, 1, 4), (48, 0, 4), (46, 13, 0), (46, 12, 0), (46, 11, 0), (46, 10, 65), (46, 9, 64), (46, 8, 55), (55, 6, 0), (55, 5, 63), (55, 4, 62), (55, 3, 61), (55, 2, 60), (55, 1, 59), (55, 0, 56), (56, 2, 0), (56, 1, 58), (56, 0, 57), (46, 7, 54), (46, 6, 53), (46, 5, 52), (46, 4, 51), (46, 3, 50), (46, 2, 49), (46, 1, 48), (46, 0, 47), (1, 1, 4), (5, 7, 41), (41, 5, 0), (41, 4, 0), (41, 3, 45), (41, 2, 44), (41, 1, 43), (41, 0, 42), (5, 6, 36), (36, 5, 0), (36, 4, 0), (36, 3, 40), (36, 2, 39), (36, 1, 38), (36, 0, 37), (5, 5, 31), (31, 5, 0), (31, 4, 0), (31, 3, 35), (31, 2, 34), (31, 1, 33), (31, 0, 32), (5, 4, 26), (26, 5, 0), (26, 4, 0), (26, 3, 30), (26, 2, 29), (26, 1, 28), (26, 0, 27), (5, 3, 21), (21, 5, 0), (21, 4, 0), (21, 3, 25), (21, 2, 24), (21, 1, 23), (21, 0, 22), (5, 2, 16), (16, 5, 0), (16, 4, 0), (16, 3, 20), (16, 2, 19), (16, 1, 18), (16, 0, 17), (5, 1, 11), (11, 5, 0), (11, 4, 0), (11, 3, 15), (11, 2, 14), (11, 1, 13), (11, 0, 12), (5, 0, 6), (6, 5, 0), (6, 4, 0), (6, 3, 10), (6, 2, 9), (6, 1, 8), (6, 0, 7), (4, 1, 0), (4, 0, 5), (1, 0, 2), (2, 1, 0), (2, 0, 3)]
set_option maxRecDepth 20000 in
theorem k_init_1 {L : List Nat} {G : Nat → Nat → Int} (hr : 1 ∈ L) (hN : x_new 2 127 L) : CM yX11_init mX11_init 4 125 2494 [vR 1] L G (qK L nw_1 us_1 G) := by
  refine Ct.of_X (μ := mX11_init) rfl rfl (by decide) (fun _ => rfl) (Nat.le_of_ble_eq_true rfl) rfl ?_
  refine y_start ?_
  refine x_aloadn (pc := 0) dX11_init_0 rfl ?_
  refine x_objI (pc := 1) dX11_init_1 lm_X11_1 (by decide) (Nat.le_of_ble_eq_true rfl) ?_
  refine x_aloadn (pc := 4) dX11_init_4 rfl ?_
  refine y_newO (q := 2) (pc := 5) dX11_init_5 rfl inX9 tyX9_ok lc_new_X11_7 ln_X9 lt_X9 (by decide) ftX9 (hN 2 (by decide) (by decide)) (by decide) (by decide +kernel) (by decide +kernel) k_2 (by decide) ?_
  refine x_dup (pc := 8) dX11_init_8 (fun h => by cases h) ?_
  refine y_callIN (pc := 9) dX11_init_9 lk_X11_9 (k_init_2 (List.mem_append.mpr (Or.inr (by decide +kernel))) ((hN.mono (by decide) (by decide)).app (by decide +kernel))) (Or.inr (by decide +kernel)) ⟨by decide, by decide⟩ (by decide) (Nat.le_of_ble_eq_true rfl) (by decide +kernel) ?_
  refine y_putFR (pc := 12) dX11_init_12 fp_X11_10 k_1 (Or.inl hr) rfl ?_
  refine x_aloadn (pc := 15) dX11_init_15 rfl ?_
  refine y_newO (q := 4) (pc := 16) dX11_init_16 rfl inX3 tyX3_ok lc_new_X11_16 ln_X3 lt_X3 (by decide) ftX3 (hN 4 (by decide) (by decide)) (by decide) (by decide +kernel) (by decide +kernel) k_4 (by decide) ?_
  refine x_dup (pc := 19) dX11_init_19 (fun h => by cases h) ?_
  refine y_callI (pc := 20) dX11_init_20 lk_X11_18 (k_init_4 (List.mem_append.mpr (Or.inr (by decide +kernel))) ((hN.mono (by decide) (by decide)).app (by decide +kernel))) (Or.inr (by decide +kernel)) ⟨by decide, by decide⟩ (by decide) (Nat.le_of_ble_eq_true rfl) (by decide +kernel) ?_
  refine y_putFR (pc := 23) dX11_init_23 fp_X11_19 k_1 (Or.inl hr) rfl ?_
  refine x_aloadn (pc := 26) dX11_init_26 rfl ?_
  refine y_newO (q := 46) (pc := 27) dX11_init_27 rfl inX1 tyX1_ok lc_new_X11_23 ln_X1 lt_X1 (by decide) ftX1 (hN 46 (by decide) (by decide)) (by decide) (by decide +kernel) (by decide +kernel) k_46 (by decide) ?_
  refine x_dup (pc := 30) dX11_init_30 (fun h => by cases h) ?_
  refine y_callI (pc := 31) dX11_init_31 lk_X11_25 (k_init_46 (List.mem_append.mpr (Or.inr (by decide +kernel))) ((hN.mono (by decide) (by decide)).app (by decide +kernel))) (Or.inr (by decide +kernel)) ⟨by decide, by decide⟩ (by decide) (Nat.le_of_ble_eq_true rfl) (by decide +kernel) ?_
  refine y_putFR (pc := 34) dX11_init_34 fp_X11_26 k_1 (Or.inl hr) rfl ?_
  refine x_aloadn (pc := 37) dX11_init_37 rfl ?_
  refine y_newO (q := 66) (pc := 38) dX11_init_38 rfl inX2 tyX2_ok lc_new_X11_30 ln_X2 lt_X2 (by decide) ftX2 (hN 66 (by decide) (by decide)) (by decide) (by decide +kernel) (by decide +kernel) k_66 (by decide) ?_
  refine x_dup (pc := 41) dX11_init_41 (fun h => by cases h) ?_
  refine y_callIN (pc := 42) dX11_init_42 lk_X11_32 (k_init_66 (List.mem_append.mpr (Or.inr (by decide +kernel))) ((hN.mono (by decide) (by decide)).app (by decide +kernel))) (Or.inr (by decide +kernel)) ⟨by decide, by decide⟩ (by decide) (Nat.le_of_ble_eq_true rfl) (by decide +kernel) ?_
  refine y_putFR (pc := 45) dX11_init_45 fp_X11_33 k_1 (Or.inl hr) rfl ?_
  refine x_aloadn (pc := 48) dX11_init_48 rfl ?_
  refine x_iconst (pc := 49) dX11_init_49 ?_
  refine y_newQ (N := 4) (q := 83) (t0 := 4) (pc := 50) dX11_init_50 lc_anewarray_X11_37 lo_W ⟨by decide, fun _ => rfl⟩ rfl (by decide) (hN 83 (by decide) (by decide)) (by decide) (by decide +kernel) (by decide +kernel) k_83 (by decide) ?_
  refine y_putFR (pc := 53) dX11_init_53 fp_X11_39 k_1 (Or.inl hr) rfl ?_
  refine x_aloadn (pc := 56) dX11_init_56 rfl ?_
  refine y_newO (q := 84) (pc := 57) dX11_init_57 rfl inX0 tyX0_ok lc_new_X11_43 ln_X0 lt_X0 (by decide) ftX0 (hN 84 (by decide) (by decide)) (by decide) (by decide +kernel) (by decide +kernel) k_84 (by decide) ?_
  refine x_dup (pc := 60) dX11_init_60 (fun h => by cases h) ?_
  refine y_callIN (pc := 61) dX11_init_61 lk_X11_45 (k_init_84 (List.mem_append.mpr (Or.inr (by decide +kernel))) ((hN.mono (by decide) (by decide)).app (by decide +kernel))) (Or.inr (by decide +kernel)) ⟨by decide, by decide⟩ (by decide) (Nat.le_of_ble_eq_true rfl) (by decide +kernel) ?_
  refine y_putFR (pc := 64) dX11_init_64 fp_X11_46 k_1 (Or.inl hr) rfl ?_
  refine x_aloadn (pc := 67) dX11_init_67 rfl ?_
  refine x_iconst (pc := 68) dX11_init_68 ?_
  refine y_newQ (N := 4) (q := 87) (t0 := 3) (pc := 69) dX11_init_69 lc_anewarray_X11_50 lo_S ⟨by decide, fun _ => rfl⟩ rfl (by decide) (hN 87 (by decide) (by decide)) (by decide) (by decide +kernel) (by decide +kernel) k_87 (by decide) ?_
  refine y_putFR (pc := 72) dX11_init_72 fp_X11_52 k_1 (Or.inl hr) rfl ?_
  refine x_aloadn (pc := 75) dX11_init_75 rfl ?_
  refine y_newO (q := 88) (pc := 76) dX11_init_76 rfl inX7 tyX7_ok lc_new_X11_56 ln_X7 lt_X7 (by decide) ftX7 (hN 88 (by decide) (by decide)) (by decide) (by decide +kernel) (by decide +kernel) k_88 (by decide) ?_
  refine x_dup (pc := 79) dX11_init_79 (fun h => by cases h) ?_
  refine y_callIN (pc := 80) dX11_init_80 lk_X11_58 (k_init_88 (List.mem_append.mpr (Or.inr (by decide +kernel))) ((hN.mono (by decide) (by decide)).app (by decide +kernel))) (Or.inr (by decide +kernel)) ⟨by decide, by decide⟩ (by decide) (Nat.le_of_ble_eq_true rfl) (by decide +kernel) ?_
  refine y_putFR (pc := 83) dX11_init_83 fp_X11_59 k_1 (Or.inl hr) rfl ?_
  refine x_iconst (pc := 86) dX11_init_86 ?_
  refine x_istoren (ls' := [some (vR 1), some (vI 0)]) (pc := 87) dX11_init_87 rfl (by decide) rfl ?_
  refine x_iloadn (pc := 88) dX11_init_88 rfl ?_
  refine x_iconst (pc := 89) dX11_init_89 ?_
  refine x_cge (tgt := 125) (pc := 90) dX11_init_90 (by decide) (by decide) (fun c_90 => ?_) (fun c_90 => ?_)
  · exact absurd c_90 (by decide)
  refine x_aloadn (pc := 93) dX11_init_93 rfl ?_
  refine y_getR 83 (pc := 94) dX11_init_94 fl_X11_39 k_1 (Or.inl hr) (by decide +kernel) ?_
  refine x_iloadn (pc := 97) dX11_init_97 rfl ?_
  refine y_newO (q := 99) (pc := 98) dX11_init_98 rfl inX10 tyX10_ok lc_new_X11_37 ln_X10 lt_X10 (by decide) ftX10 (hN 99 (by decide) (by decide)) (by decide) (by decide +kernel) (by decide +kernel) k_99 (by decide) ?_
  refine x_dup (pc := 101) dX11_init_101 (fun h => by cases h) ?_
  refine y_callIN (pc := 102) dX11_init_102 lk_X11_63 (k_init_99 (List.mem_append.mpr (Or.inr (by decide +kernel))) ((hN.mono (by decide) (by decide)).app (by decide +kernel))) (Or.inr (by decide +kernel)) ⟨by decide, by decide⟩ (by decide) (Nat.le_of_ble_eq_true rfl) (by decide +kernel) ?_
  refine y_astQ (t0 := 4) 0 (pc := 105) dX11_init_105 k_83 (Or.inr (by decide +kernel)) k_99 (Or.inr (by decide +kernel)) ⟨by decide, fun _ => rfl⟩ ⟨by decide, rfl⟩ (by decide) ?_
  refine x_aloadn (pc := 106) dX11_init_106 rfl ?_
  refine y_getR 87 (pc := 107) dX11_init_107 fl_X11_52 k_1 (Or.inl hr) (by decide +kernel) ?_
  refine x_iloadn (pc := 110) dX11_init_110 rfl ?_
  refine y_newO (q := 101) (pc := 111) dX11_init_111 rfl inX8 tyX8_ok lc_new_X11_50 ln_X8 lt_X8 (by decide) ftX8 (hN 101 (by decide) (by decide)) (by decide) (by decide +kernel) (by decide +kernel) k_101 (by decide) ?_
  refine x_dup (pc := 114) dX11_init_114 (fun h => by cases h) ?_
  refine y_callIN (pc := 115) dX11_init_115 lk_X11_64 (k_init_101 (List.mem_append.mpr (Or.inr (by decide +kernel))) ((hN.mono (by decide) (by decide)).app (by decide +kernel))) (Or.inr (by decide +kernel)) ⟨by decide, by decide⟩ (by decide) (Nat.le_of_ble_eq_true rfl) (by decide +kernel) ?_
  refine y_astQ (t0 := 3) 0 (pc := 118) dX11_init_118 k_87 (Or.inr (by decide +kernel)) k_101 (Or.inr (by decide +kernel)) ⟨by decide, fun _ => rfl⟩ ⟨by decide, rfl⟩ (by decide) ?_
  refine x_iinc (ls' := [some (vR 1), some (vI 1)]) (pc := 119) dX11_init_119 rfl (by decide) rfl ?_
  refine x_goto (tgt := 88) (pc := 122) dX11_init_122 (by decide) ?_
  refine x_iloadn (pc := 88) dX11_init_88 rfl ?_
  refine x_iconst (pc := 89) dX11_init_89 ?_
  refine x_cge (tgt := 125) (pc := 90) dX11_init_90 (by decide) (by decide) (fun c_90 => ?_) (fun c_90 => ?_)
  · exact absurd c_90 (by decide)
  refine x_aloadn (pc := 93) dX11_init_93 rfl ?_
  refine y_getR 83 (pc := 94) dX11_init_94 fl_X11_39 k_1 (Or.inl hr) (by decide +kernel) ?_
  refine x_iloadn (pc := 97) dX11_init_97 rfl ?_
  refine y_newO (q := 106) (pc := 98) dX11_init_98 rfl inX10 tyX10_ok lc_new_X11_37 ln_X10 lt_X10 (by decide) ftX10 (hN 106 (by decide) (by decide)) (by decide) (by decide +kernel) (by decide +kernel) k_106 (by decide) ?_
  refine x_dup (pc := 101) dX11_init_101 (fun h => by cases h) ?_
  refine y_callIN (pc := 102) dX11_init_102 lk_X11_63 (k_init_106 (List.mem_append.mpr (Or.inr (by decide +kernel))) ((hN.mono (by decide) (by decide)).app (by decide +kernel))) (Or.inr (by decide +kernel)) ⟨by decide, by decide⟩ (by decide) (Nat.le_of_ble_eq_true rfl) (by decide +kernel) ?_
  refine y_astQ (t0 := 4) 1 (pc := 105) dX11_init_105 k_83 (Or.inr (by decide +kernel)) k_106 (Or.inr (by decide +kernel)) ⟨by decide, fun _ => rfl⟩ ⟨by decide, rfl⟩ (by decide) ?_
  refine x_aloadn (pc := 106) dX11_init_106 rfl ?_
  refine y_getR 87 (pc := 107) dX11_init_107 fl_X11_52 k_1 (Or.inl hr) (by decide +kernel) ?_
  refine x_iloadn (pc := 110) dX11_init_110 rfl ?_
  refine y_newO (q := 108) (pc := 111) dX11_init_111 rfl inX8 tyX8_ok lc_new_X11_50 ln_X8 lt_X8 (by decide) ftX8 (hN 108 (by decide) (by decide)) (by decide) (by decide +kernel) (by decide +kernel) k_108 (by decide) ?_
  refine x_dup (pc := 114) dX11_init_114 (fun h => by cases h) ?_
  refine y_callIN (pc := 115) dX11_init_115 lk_X11_64 (k_init_108 (List.mem_append.mpr (Or.inr (by decide +kernel))) ((hN.mono (by decide) (by decide)).app (by decide +kernel))) (Or.inr (by decide +kernel)) ⟨by decide, by decide⟩ (by decide) (Nat.le_of_ble_eq_true rfl) (by decide +kernel) ?_
  refine y_astQ (t0 := 3) 1 (pc := 118) dX11_init_118 k_87 (Or.inr (by decide +kernel)) k_108 (Or.inr (by decide +kernel)) ⟨by decide, fun _ => rfl⟩ ⟨by decide, rfl⟩ (by decide) ?_
  refine x_iinc (ls' := [some (vR 1), some (vI 2)]) (pc := 119) dX11_init_119 rfl (by decide) rfl ?_
  refine x_goto (tgt := 88) (pc := 122) dX11_init_122 (by decide) ?_
  refine x_iloadn (pc := 88) dX11_init_88 rfl ?_
  refine x_iconst (pc := 89) dX11_init_89 ?_
  refine x_cge (tgt := 125) (pc := 90) dX11_init_90 (by decide) (by decide) (fun c_90 => ?_) (fun c_90 => ?_)
  · exact absurd c_90 (by decide)
  refine x_aloadn (pc := 93) dX11_init_93 rfl ?_
  refine y_getR 83 (pc := 94) dX11_init_94 fl_X11_39 k_1 (Or.inl hr) (by decide +kernel) ?_
  refine x_iloadn (pc := 97) dX11_init_97 rfl ?_
  refine y_newO (q := 113) (pc := 98) dX11_init_98 rfl inX10 tyX10_ok lc_new_X11_37 ln_X10 lt_X10 (by decide) ftX10 (hN 113 (by decide) (by decide)) (by decide) (by decide +kernel) (by decide +kernel) k_113 (by decide) ?_
  refine x_dup (pc := 101) dX11_init_101 (fun h => by cases h) ?_
  refine y_callIN (pc := 102) dX11_init_102 lk_X11_63 (k_init_113 (List.mem_append.mpr (Or.inr (by decide +kernel))) ((hN.mono (by decide) (by decide)).app (by decide +kernel))) (Or.inr (by decide +kernel)) ⟨by decide, by decide⟩ (by decide) (Nat.le_of_ble_eq_true rfl) (by decide +kernel) ?_
  refine y_astQ (t0 := 4) 2 (pc := 105) dX11_init_105 k_83 (Or.inr (by decide +kernel)) k_113 (Or.inr (by decide +kernel)) ⟨by decide, fun _ => rfl⟩ ⟨by decide, rfl⟩ (by decide) ?_
  refine x_aloadn (pc := 106) dX11_init_106 rfl ?_
  refine y_getR 87 (pc := 107) dX11_init_107 fl_X11_52 k_1 (Or.inl hr) (by decide +kernel) ?_
  refine x_iloadn (pc := 110) dX11_init_110 rfl ?_
  refine y_newO (q := 115) (pc := 111) dX11_init_111 rfl inX8 tyX8_ok lc_new_X11_50 ln_X8 lt_X8 (by decide) ftX8 (hN 115 (by decide) (by decide)) (by decide) (by decide +kernel) (by decide +kernel) k_115 (by decide) ?_
  refine x_dup (pc := 114) dX11_init_114 (fun h => by cases h) ?_
  refine y_callIN (pc := 115) dX11_init_115 lk_X11_64 (k_init_115 (List.mem_append.mpr (Or.inr (by decide +kernel))) ((hN.mono (by decide) (by decide)).app (by decide +kernel))) (Or.inr (by decide +kernel)) ⟨by decide, by decide⟩ (by decide) (Nat.le_of_ble_eq_true rfl) (by decide +kernel) ?_
  refine y_astQ (t0 := 3) 2 (pc := 118) dX11_init_118 k_87 (Or.inr (by decide +kernel)) k_115 (Or.inr (by decide +kernel)) ⟨by decide, fun _ => rfl⟩ ⟨by decide, rfl⟩ (by decide) ?_
  refine x_iinc (ls' := [some (vR 1), some (vI 3)]) (pc := 119) dX11_init_119 rfl (by decide) rfl ?_
  refine x_goto (tgt := 88) (pc := 122) dX11_init_122 (by decide) ?_
  refine x_iloadn (pc := 88) dX11_init_88 rfl ?_
  refine x_iconst (pc := 89) dX11_init_89 ?_
  refine x_cge (tgt := 125) (pc := 90) dX11_init_90 (by decide) (by decide) (fun c_90 => ?_) (fun c_90 => ?_)
  · exact absurd c_90 (by decide)
  refine x_aloadn (pc := 93) dX11_init_93 rfl ?_
  refine y_getR 83 (pc := 94) dX11_init_94 fl_X11_39 k_1 (Or.inl hr) (by decide +kernel) ?_
  refine x_iloadn (pc := 97) dX11_init_97 rfl ?_
  refine y_newO (q := 120) (pc := 98) dX11_init_98 rfl inX10 tyX10_ok lc_new_X11_37 ln_X10 lt_X10 (by decide) ftX10 (hN 120 (by decide) (by decide)) (by decide) (by decide +kernel) (by decide +kernel) k_120 (by decide) ?_
  refine x_dup (pc := 101) dX11_init_101 (fun h => by cases h) ?_
  refine y_callIN (pc := 102) dX11_init_102 lk_X11_63 (k_init_120 (List.mem_append.mpr (Or.inr (by decide +kernel))) ((hN.mono (by decide) (by decide)).app (by decide +kernel))) (Or.inr (by decide +kernel)) ⟨by decide, by decide⟩ (by decide) (Nat.le_of_ble_eq_true rfl) (by decide +kernel) ?_
  refine y_astQ (t0 := 4) 3 (pc := 105) dX11_init_105 k_83 (Or.inr (by decide +kernel)) k_120 (Or.inr (by decide +kernel)) ⟨by decide, fun _ => rfl⟩ ⟨by decide, rfl⟩ (by decide) ?_
  refine x_aloadn (pc := 106) dX11_init_106 rfl ?_
  refine y_getR 87 (pc := 107) dX11_init_107 fl_X11_52 k_1 (Or.inl hr) (by decide +kernel) ?_
  refine x_iloadn (pc := 110) dX11_init_110 rfl ?_
  refine y_newO (q := 122) (pc := 111) dX11_init_111 rfl inX8 tyX8_ok lc_new_X11_50 ln_X8 lt_X8 (by decide) ftX8 (hN 122 (by decide) (by decide)) (by decide) (by decide +kernel) (by decide +kernel) k_122 (by decide) ?_
  refine x_dup (pc := 114) dX11_init_114 (fun h => by cases h) ?_
  refine y_callIN (pc := 115) dX11_init_115 lk_X11_64 (k_init_122 (List.mem_append.mpr (Or.inr (by decide +kernel))) ((hN.mono (by decide) (by decide)).app (by decide +kernel))) (Or.inr (by decide +kernel)) ⟨by decide, by decide⟩ (by decide) (Nat.le_of_ble_eq_true rfl) (by decide +kernel) ?_
  refine y_astQ (t0 := 3) 3 (pc := 118) dX11_init_118 k_87 (Or.inr (by decide +kernel)) k_122 (Or.inr (by decide +kernel)) ⟨by decide, fun _ => rfl⟩ ⟨by decide, rfl⟩ (by decide) ?_
  refine x_iinc (ls' := [some (vR 1), some (vI 4)]) (pc := 119) dX11_init_119 rfl (by decide) rfl ?_
  refine x_goto (tgt := 88) (pc := 122) dX11_init_122 (by decide) ?_
  refine x_iloadn (pc := 88) dX11_init_88 rfl ?_
  refine x_iconst (pc := 89) dX11_init_89 ?_
  refine x_cge (tgt := 125) (pc := 90) dX11_init_90 (by decide) (by decide) (fun c_90 => ?_) (fun c_90 => ?_)
  rotate_left
  · exact absurd c_90 (by decide)
  exact y_ret dX11_init_125 rfl

