/-! the graph of a chase is made -/
def nw_174 : List Nat := [176, 177, 175, 178]
def us_174 : List (Nat × Nat × Int) := [(174, 4, 0), (174, 3, 0), (174, 2, 0), (174, 1, 178), (174, 0, 175), (175, 0, 176), (175, 1, 177)]
theorem k_init_174 {L : List Nat} {G : Nat → Nat → Int} (hr : 174 ∈ L) (hN : x_new 175 179 L) : CM yX6_init mX6_init 1 4 68 [vR 174] L G (qK L nw_174 us_174 G) := by
  refine Ct.of_X (μ := mX6_init) rfl rfl (by decide) (fun _ => rfl) (Nat.le_of_ble_eq_true rfl) rfl ?_
  refine y_start ?_
  refine x_aloadn (pc := 0) dX6_init_0 rfl ?_
  refine x_objI (pc := 1) dX6_init_1 lm_X6_3 (by decide) (Nat.le_of_ble_eq_true rfl) ?_
  refine x_aloadn (pc := 4) dX6_init_4 rfl ?_
  refine x_iconst (pc := 5) dX6_init_5 ?_
  refine x_bipush (pc := 6) dX6_init_6 (by decide) ?_
  refine y_newM (r := 175) (N := 2) (M := 32) (pc := 8) dX6_init_8 lc_multianewarray_X6_11 rfl rfl (by decide) (by decide) (fun j hj => ⟨hN _ (by omega) (by omega), by revert j; decide +kernel, by revert j; decide +kernel⟩) (hN 175 (by decide) (by decide)) (by decide) (by decide +kernel) (by decide +kernel) k_175 (by decide) ?_
  refine y_putFR (pc := 12) dX6_init_12 fp_X6_13 k_174 (Or.inl hr) rfl ?_
  refine x_aloadn (pc := 15) dX6_init_15 rfl ?_
  refine x_iconst (pc := 16) dX6_init_16 ?_
  refine y_newI (N := 2) (q := 178) (pc := 17) dX6_init_17 rfl (by decide) (hN 178 (by decide) (by decide)) (by decide) (by decide +kernel) (by decide +kernel) k_178 (by decide) ?_
  refine y_putFR (pc := 19) dX6_init_19 fp_X6_16 k_174 (Or.inl hr) rfl ?_
  refine x_aloadn (pc := 22) dX6_init_22 rfl ?_
  refine x_iconst (pc := 23) dX6_init_23 ?_
  refine y_putI (pc := 24) dX6_init_24 fp_X6_20 k_174 (Or.inl hr) ?_
  refine x_aloadn (pc := 27) dX6_init_27 rfl ?_
  refine x_lconst (x := 0) (pc := 28) dX6_init_28 (by decide) ?_
  refine y_putL (pc := 29) dX6_init_29 fp_X6_24 k_174 (Or.inl hr) ?_
  refine x_aloadn (pc := 32) dX6_init_32 rfl ?_
  refine x_iconst (pc := 33) dX6_init_33 ?_
  refine y_putI (pc := 34) dX6_init_34 fp_X6_28 k_174 (Or.inl hr) ?_
  exact y_ret dX6_init_37 rfl
def nw_179 : List Nat := [181, 182, 180, 183]
def us_179 : List (Nat × Nat × Int) := [(179, 4, 0), (179, 3, 0), (179, 2, 0), (179, 1, 183), (179, 0, 180), (180, 0, 181), (180, 1, 182)]
theorem k_init_179 {L : List Nat} {G : Nat → Nat → Int} (hr : 179 ∈ L) (hN : x_new 180 184 L) : CM yX6_init mX6_init 1 4 68 [vR 179] L G (qK L nw_179 us_179 G) := by
  refine Ct.of_X (μ := mX6_init) rfl rfl (by decide) (fun _ => rfl) (Nat.le_of_ble_eq_true rfl) rfl ?_
  refine y_start ?_
  refine x_aloadn (pc := 0) dX6_init_0 rfl ?_
  refine x_objI (pc := 1) dX6_init_1 lm_X6_3 (by decide) (Nat.le_of_ble_eq_true rfl) ?_
  refine x_aloadn (pc := 4) dX6_init_4 rfl ?_
  refine x_iconst (pc := 5) dX6_init_5 ?_
  refine x_bipush (pc := 6) dX6_init_6 (by decide) ?_
  refine y_newM (r := 180) (N := 2) (M := 32) (pc := 8) dX6_init_8 lc_multianewarray_X6_11 rfl rfl (by decide) (by decide) (fun j hj => ⟨hN _ (by omega) (by omega), by revert j; decide +kernel, by revert j; decide +kernel⟩) (hN 180 (by decide) (by decide)) (by decide) (by decide +kernel) (by decide +kernel) k_180 (by decide) ?_
  refine y_putFR (pc := 12) dX6_init_12 fp_X6_13 k_179 (Or.inl hr) rfl ?_
  refine x_aloadn (pc := 15) dX6_init_15 rfl ?_
  refine x_iconst (pc := 16) dX6_init_16 ?_
  refine y_newI (N := 2) (q := 183) (pc := 17) dX6_init_17 rfl (by decide) (hN 183 (by decide) (by decide)) (by decide) (by decide +kernel) (by decide +kernel) k_183 (by decide) ?_
  refine y_putFR (pc := 19) dX6_init_19 fp_X6_16 k_179 (Or.inl hr) rfl ?_
  refine x_aloadn (pc := 22) dX6_init_22 rfl ?_
  refine x_iconst (pc := 23) dX6_init_23 ?_
  refine y_putI (pc := 24) dX6_init_24 fp_X6_20 k_179 (Or.inl hr) ?_
  refine x_aloadn (pc := 27) dX6_init_27 rfl ?_
  refine x_lconst (x := 0) (pc := 28) dX6_init_28 (by decide) ?_
  refine y_putL (pc := 29) dX6_init_29 fp_X6_24 k_179 (Or.inl hr) ?_
  refine x_aloadn (pc := 32) dX6_init_32 rfl ?_
  refine x_iconst (pc := 33) dX6_init_33 ?_
  refine y_putI (pc := 34) dX6_init_34 fp_X6_28 k_179 (Or.inl hr) ?_
  exact y_ret dX6_init_37 rfl
def nw_173 : List Nat := [174, 176, 177, 175, 178, 179, 181, 182, 180, 183, 184, 185, 186, 187, 188, 189, 190, 191, 192, 193, 194]
def us_173 : List (Nat × Nat × Int) := [(173, 16, 0), (173, 15, 0), (173, 14, -1), (173, 13, 0), (173, 12, 194), (173, 11, 193), (173, 10, 192), (173, 9, 191), (173, 8, 190), (173, 7, 189), (173, 6, 188), (173, 5, 187), (173, 4, 186), (173, 3, 185), (173, 2, 184), (173, 1, 179), (179, 4, 0), (179, 3, 0), (179, 2, 0), (179, 1, 183), (179, 0, 180), (180, 0, 181), (180, 1, 182), (173, 0, 174), (174, 4, 0), (174, 3, 0), (174, 2, 0), (174, 1, 178), (174, 0, 175), (175, 0, 176), (175, 1, 177)]
theorem k_init_173 {L : List Nat} {G : Nat → Nat → Int} (hr : 173 ∈ L) (hN : x_new 174 195 L) : CM yX5_init mX5_init 2 21 32742 [vR 173] L G (qK L nw_173 us_173 G) := by
  refine Ct.of_X (μ := mX5_init) rfl rfl (by decide) (fun _ => rfl) (Nat.le_of_ble_eq_true rfl) rfl ?_
  refine y_start ?_
  refine x_aloadn (pc := 0) dX5_init_0 rfl ?_
  refine x_objI (pc := 1) dX5_init_1 lm_X5_3 (by decide) (Nat.le_of_ble_eq_true rfl) ?_
  refine x_aloadn (pc := 4) dX5_init_4 rfl ?_
  refine y_newO (q := 174) (pc := 5) dX5_init_5 rfl inX6 tyX6_ok lc_new_X5_9 ln_X6 lt_X6 (by decide) ftX6 (hN 174 (by decide) (by decide)) (by decide) (by decide +kernel) (by decide +kernel) k_174 (by decide) ?_
  refine x_dup (pc := 8) dX5_init_8 (fun h => by cases h) ?_
  refine y_callIN (pc := 9) dX5_init_9 lk_X5_11 (k_init_174 (List.mem_append.mpr (Or.inr (by decide +kernel))) ((hN.mono (by decide) (by decide)).app (by decide +kernel))) (Or.inr (by decide +kernel)) ⟨by decide, by decide⟩ (by decide) (Nat.le_of_ble_eq_true rfl) (by decide +kernel) ?_
  refine y_putFR (pc := 12) dX5_init_12 fp_X5_12 k_173 (Or.inl hr) rfl ?_
  refine x_aloadn (pc := 15) dX5_init_15 rfl ?_
  refine y_newO (q := 179) (pc := 16) dX5_init_16 rfl inX6 tyX6_ok lc_new_X5_9 ln_X6 lt_X6 (by decide) ftX6 (hN 179 (by decide) (by decide)) (by decide) (by decide +kernel) (by decide +kernel) k_179 (by decide) ?_
  refine x_dup (pc := 19) dX5_init_19 (fun h => by cases h) ?_
  refine y_callIN (pc := 20) dX5_init_20 lk_X5_11 (k_init_179 (List.mem_append.mpr (Or.inr (by decide +kernel))) ((hN.mono (by decide) (by decide)).app (by decide +kernel))) (Or.inr (by decide +kernel)) ⟨by decide, by decide⟩ (by decide) (Nat.le_of_ble_eq_true rfl) (by decide +kernel) ?_
  refine y_putFR (pc := 23) dX5_init_23 fp_X5_18 k_173 (Or.inl hr) rfl ?_
  refine x_aloadn (pc := 26) dX5_init_26 rfl ?_
  refine x_sipush (pc := 27) dX5_init_27 (by decide) ?_
  refine y_newJ (N := 1500) (q := 184) (pc := 30) dX5_init_30 rfl (by decide) (hN 184 (by decide) (by decide)) (by decide) (by decide +kernel) (by decide +kernel) k_184 (by decide) ?_
  refine y_putFR (pc := 32) dX5_init_32 fp_X5_21 k_173 (Or.inl hr) rfl ?_
  refine x_aloadn (pc := 35) dX5_init_35 rfl ?_
  refine x_sipush (pc := 36) dX5_init_36 (by decide) ?_
  refine y_newI (N := 1500) (q := 185) (pc := 39) dX5_init_39 rfl (by decide) (hN 185 (by decide) (by decide)) (by decide) (by decide +kernel) (by decide +kernel) k_185 (by decide) ?_
  refine y_putFR (pc := 41) dX5_init_41 fp_X5_25 k_173 (Or.inl hr) rfl ?_
  refine x_aloadn (pc := 44) dX5_init_44 rfl ?_
  refine x_sipush (pc := 45) dX5_init_45 (by decide) ?_
  refine y_newI (N := 4096) (q := 186) (pc := 48) dX5_init_48 rfl (by decide) (hN 186 (by decide) (by decide)) (by decide) (by decide +kernel) (by decide +kernel) k_186 (by decide) ?_
  refine y_putFR (pc := 50) dX5_init_50 fp_X5_29 k_173 (Or.inl hr) rfl ?_
  refine x_aloadn (pc := 53) dX5_init_53 rfl ?_
  refine x_sipush (pc := 54) dX5_init_54 (by decide) ?_
  refine y_newI (N := 6000) (q := 187) (pc := 57) dX5_init_57 rfl (by decide) (hN 187 (by decide) (by decide)) (by decide) (by decide +kernel) (by decide +kernel) k_187 (by decide) ?_
  refine y_putFR (pc := 59) dX5_init_59 fp_X5_32 k_173 (Or.inl hr) rfl ?_
  refine x_aloadn (pc := 62) dX5_init_62 rfl ?_
  refine x_sipush (pc := 63) dX5_init_63 (by decide) ?_
  refine y_newZ (N := 6000) (q := 188) (pc := 66) dX5_init_66 rfl (by decide) (hN 188 (by decide) (by decide)) (by decide) (by decide +kernel) (by decide +kernel) k_188 (by decide) ?_
  refine y_putFR (pc := 68) dX5_init_68 fp_X5_35 k_173 (Or.inl hr) rfl ?_
  refine x_aloadn (pc := 71) dX5_init_71 rfl ?_
  refine x_sipush (pc := 72) dX5_init_72 (by decide) ?_
  refine y_newI (N := 1500) (q := 189) (pc := 75) dX5_init_75 rfl (by decide) (hN 189 (by decide) (by decide)) (by decide) (by decide +kernel) (by decide +kernel) k_189 (by decide) ?_
  refine y_putFR (pc := 77) dX5_init_77 fp_X5_39 k_173 (Or.inl hr) rfl ?_
  refine x_aloadn (pc := 80) dX5_init_80 rfl ?_
  refine x_sipush (pc := 81) dX5_init_81 (by decide) ?_
  refine y_newI (N := 1500) (q := 190) (pc := 84) dX5_init_84 rfl (by decide) (hN 190 (by decide) (by decide)) (by decide) (by decide +kernel) (by decide +kernel) k_190 (by decide) ?_
  refine y_putFR (pc := 86) dX5_init_86 fp_X5_42 k_173 (Or.inl hr) rfl ?_
  refine x_aloadn (pc := 89) dX5_init_89 rfl ?_
  refine x_sipush (pc := 90) dX5_init_90 (by decide) ?_
  refine y_newI (N := 6000) (q := 191) (pc := 93) dX5_init_93 rfl (by decide) (hN 191 (by decide) (by decide)) (by decide) (by decide +kernel) (by decide +kernel) k_191 (by decide) ?_
  refine y_putFR (pc := 95) dX5_init_95 fp_X5_45 k_173 (Or.inl hr) rfl ?_
  refine x_aloadn (pc := 98) dX5_init_98 rfl ?_
  refine x_sipush (pc := 99) dX5_init_99 (by decide) ?_
  refine y_newZ (N := 1500) (q := 192) (pc := 102) dX5_init_102 rfl (by decide) (hN 192 (by decide) (by decide)) (by decide) (by decide +kernel) (by decide +kernel) k_192 (by decide) ?_
  refine y_putFR (pc := 104) dX5_init_104 fp_X5_48 k_173 (Or.inl hr) rfl ?_
  refine x_aloadn (pc := 107) dX5_init_107 rfl ?_
  refine x_sipush (pc := 108) dX5_init_108 (by decide) ?_
  refine y_newI (N := 1500) (q := 193) (pc := 111) dX5_init_111 rfl (by decide) (hN 193 (by decide) (by decide)) (by decide) (by decide +kernel) (by decide +kernel) k_193 (by decide) ?_
  refine y_putFR (pc := 113) dX5_init_113 fp_X5_51 k_173 (Or.inl hr) rfl ?_
  refine x_aloadn (pc := 116) dX5_init_116 rfl ?_
  refine x_sipush (pc := 117) dX5_init_117 (by decide) ?_
  refine y_newI (N := 1500) (q := 194) (pc := 120) dX5_init_120 rfl (by decide) (hN 194 (by decide) (by decide)) (by decide) (by decide +kernel) (by decide +kernel) k_194 (by decide) ?_
  refine y_putFR (pc := 122) dX5_init_122 fp_X5_54 k_173 (Or.inl hr) rfl ?_
  refine x_aloadn (pc := 125) dX5_init_125 rfl ?_
  refine x_iconst (pc := 126) dX5_init_126 ?_
  refine y_putI (pc := 127) dX5_init_127 fp_X5_57 k_173 (Or.inl hr) ?_
  refine x_aloadn (pc := 130) dX5_init_130 rfl ?_
  refine x_iconst (pc := 131) dX5_init_131 ?_
  refine y_putI (pc := 132) dX5_init_132 fp_X5_61 k_173 (Or.inl hr) ?_
  refine x_aloadn (pc := 135) dX5_init_135 rfl ?_
  refine x_iconst (pc := 136) dX5_init_136 ?_
  refine y_putZ (pc := 137) dX5_init_137 fp_X5_64 k_173 (Or.inl hr) (by decide) ?_
  refine x_aloadn (pc := 140) dX5_init_140 rfl ?_
  refine x_iconst (pc := 141) dX5_init_141 ?_
  refine y_putZ (pc := 142) dX5_init_142 fp_X5_68 k_173 (Or.inl hr) (by decide) ?_
  exact y_ret dX5_init_145 rfl

