/-! a text and equations are made -/
def nw_6 : List Nat := [7, 8, 9, 10]
def us_6 : List (Nat × Nat × Int) := [(6, 5, 0), (6, 4, 0), (6, 3, 10), (6, 2, 9), (6, 1, 8), (6, 0, 7)]
theorem k_init_6 {L : List Nat} {G : Nat → Nat → Int} (hr : 6 ∈ L) (hN : x_new 7 11 L) : CM yX8_init mX8_init 1 4 24 [vR 6] L G (qK L nw_6 us_6 G) := by
  refine Ct.of_X (μ := mX8_init) rfl rfl (by decide) (fun _ => rfl) (Nat.le_of_ble_eq_true rfl) rfl ?_
  refine y_start ?_
  refine x_aloadn (pc := 0) dX8_init_0 rfl ?_
  refine x_objI (pc := 1) dX8_init_1 lm_X8_3 (by decide) (Nat.le_of_ble_eq_true rfl) ?_
  refine x_aloadn (pc := 4) dX8_init_4 rfl ?_
  refine x_bipush (pc := 5) dX8_init_5 (by decide) ?_
  refine y_newI (N := 12) (q := 7) (pc := 7) dX8_init_7 rfl (by decide) (hN 7 (by decide) (by decide)) (by decide) (by decide +kernel) (by decide +kernel) k_7 (by decide) ?_
  refine y_putFR (pc := 9) dX8_init_9 fp_X8_9 k_6 (Or.inl hr) rfl ?_
  refine x_aloadn (pc := 12) dX8_init_12 rfl ?_
  refine x_iconst (pc := 13) dX8_init_13 ?_
  refine y_newI (N := 4) (q := 8) (pc := 14) dX8_init_14 rfl (by decide) (hN 8 (by decide) (by decide)) (by decide) (by decide +kernel) (by decide +kernel) k_8 (by decide) ?_
  refine y_putFR (pc := 16) dX8_init_16 fp_X8_15 k_6 (Or.inl hr) rfl ?_
  refine x_aloadn (pc := 19) dX8_init_19 rfl ?_
  refine x_iconst (pc := 20) dX8_init_20 ?_
  refine y_newI (N := 4) (q := 9) (pc := 21) dX8_init_21 rfl (by decide) (hN 9 (by decide) (by decide)) (by decide) (by decide +kernel) (by decide +kernel) k_9 (by decide) ?_
  refine y_putFR (pc := 23) dX8_init_23 fp_X8_18 k_6 (Or.inl hr) rfl ?_
  refine x_aloadn (pc := 26) dX8_init_26 rfl ?_
  refine x_iconst (pc := 27) dX8_init_27 ?_
  refine y_newI (N := 4) (q := 10) (pc := 28) dX8_init_28 rfl (by decide) (hN 10 (by decide) (by decide)) (by decide) (by decide +kernel) (by decide +kernel) k_10 (by decide) ?_
  refine y_putFR (pc := 30) dX8_init_30 fp_X8_21 k_6 (Or.inl hr) rfl ?_
  refine x_aloadn (pc := 33) dX8_init_33 rfl ?_
  refine x_iconst (pc := 34) dX8_init_34 ?_
  refine y_putI (pc := 35) dX8_init_35 fp_X8_24 k_6 (Or.inl hr) ?_
  refine x_aloadn (pc := 38) dX8_init_38 rfl ?_
  refine x_iconst (pc := 39) dX8_init_39 ?_
  refine y_putI (pc := 40) dX8_init_40 fp_X8_28 k_6 (Or.inl hr) ?_
  exact y_ret dX8_init_43 rfl
def nw_11 : List Nat := [12, 13, 14, 15]
def us_11 : List (Nat × Nat × Int) := [(11, 5, 0), (11, 4, 0), (11, 3, 15), (11, 2, 14), (11, 1, 13), (11, 0, 12)]
theorem k_init_11 {L : List Nat} {G : Nat → Nat → Int} (hr : 11 ∈ L) (hN : x_new 12 16 L) : CM yX8_init mX8_init 1 4 24 [vR 11] L G (qK L nw_11 us_11 G) := by
  refine Ct.of_X (μ := mX8_init) rfl rfl (by decide) (fun _ => rfl) (Nat.le_of_ble_eq_true rfl) rfl ?_
  refine y_start ?_
  refine x_aloadn (pc := 0) dX8_init_0 rfl ?_
  refine x_objI (pc := 1) dX8_init_1 lm_X8_3 (by decide) (Nat.le_of_ble_eq_true rfl) ?_
  refine x_aloadn (pc := 4) dX8_init_4 rfl ?_
  refine x_bipush (pc := 5) dX8_init_5 (by decide) ?_
  refine y_newI (N := 12) (q := 12) (pc := 7) dX8_init_7 rfl (by decide) (hN 12 (by decide) (by decide)) (by decide) (by decide +kernel) (by decide +kernel) k_12 (by decide) ?_
  refine y_putFR (pc := 9) dX8_init_9 fp_X8_9 k_11 (Or.inl hr) rfl ?_
  refine x_aloadn (pc := 12) dX8_init_12 rfl ?_
  refine x_iconst (pc := 13) dX8_init_13 ?_
  refine y_newI (N := 4) (q := 13) (pc := 14) dX8_init_14 rfl (by decide) (hN 13 (by decide) (by decide)) (by decide) (by decide +kernel) (by decide +kernel) k_13 (by decide) ?_
  refine y_putFR (pc := 16) dX8_init_16 fp_X8_15 k_11 (Or.inl hr) rfl ?_
  refine x_aloadn (pc := 19) dX8_init_19 rfl ?_
  refine x_iconst (pc := 20) dX8_init_20 ?_
  refine y_newI (N := 4) (q := 14) (pc := 21) dX8_init_21 rfl (by decide) (hN 14 (by decide) (by decide)) (by decide) (by decide +kernel) (by decide +kernel) k_14 (by decide) ?_
  refine y_putFR (pc := 23) dX8_init_23 fp_X8_18 k_11 (Or.inl hr) rfl ?_
  refine x_aloadn (pc := 26) dX8_init_26 rfl ?_
  refine x_iconst (pc := 27) dX8_init_27 ?_
  refine y_newI (N := 4) (q := 15) (pc := 28) dX8_init_28 rfl (by decide) (hN 15 (by decide) (by decide)) (by decide) (by decide +kernel) (by decide +kernel) k_15 (by decide) ?_
  refine y_putFR (pc := 30) dX8_init_30 fp_X8_21 k_11 (Or.inl hr) rfl ?_
  refine x_aloadn (pc := 33) dX8_init_33 rfl ?_
  refine x_iconst (pc := 34) dX8_init_34 ?_
  refine y_putI (pc := 35) dX8_init_35 fp_X8_24 k_11 (Or.inl hr) ?_
  refine x_aloadn (pc := 38) dX8_init_38 rfl ?_
  refine x_iconst (pc := 39) dX8_init_39 ?_
  refine y_putI (pc := 40) dX8_init_40 fp_X8_28 k_11 (Or.inl hr) ?_
  exact y_ret dX8_init_43 rfl
def nw_16 : List Nat := [17, 18, 19, 20]
def us_16 : List (Nat × Nat × Int) := [(16, 5, 0), (16, 4, 0), (16, 3, 20), (16, 2, 19), (16, 1, 18), (16, 0, 17)]
theorem k_init_16 {L : List Nat} {G : Nat → Nat → Int} (hr : 16 ∈ L) (hN : x_new 17 21 L) : CM yX8_init mX8_init 1 4 24 [vR 16] L G (qK L nw_16 us_16 G) := by
  refine Ct.of_X (μ := mX8_init) rfl rfl (by decide) (fun _ => rfl) (Nat.le_of_ble_eq_true rfl) rfl ?_
  refine y_start ?_
  refine x_aloadn (pc := 0) dX8_init_0 rfl ?_
  refine x_objI (pc := 1) dX8_init_1 lm_X8_3 (by decide) (Nat.le_of_ble_eq_true rfl) ?_
  refine x_aloadn (pc := 4) dX8_init_4 rfl ?_
  refine x_bipush (pc := 5) dX8_init_5 (by decide) ?_
  refine y_newI (N := 12) (q := 17) (pc := 7) dX8_init_7 rfl (by decide) (hN 17 (by decide) (by decide)) (by decide) (by decide +kernel) (by decide +kernel) k_17 (by decide) ?_
  refine y_putFR (pc := 9) dX8_init_9 fp_X8_9 k_16 (Or.inl hr) rfl ?_
  refine x_aloadn (pc := 12) dX8_init_12 rfl ?_
  refine x_iconst (pc := 13) dX8_init_13 ?_
  refine y_newI (N := 4) (q := 18) (pc := 14) dX8_init_14 rfl (by decide) (hN 18 (by decide) (by decide)) (by decide) (by decide +kernel) (by decide +kernel) k_18 (by decide) ?_
  refine y_putFR (pc := 16) dX8_init_16 fp_X8_15 k_16 (Or.inl hr) rfl ?_
  refine x_aloadn (pc := 19) dX8_init_19 rfl ?_
  refine x_iconst (pc := 20) dX8_init_20 ?_
  refine y_newI (N := 4) (q := 19) (pc := 21) dX8_init_21 rfl (by decide) (hN 19 (by decide) (by decide)) (by decide) (by decide +kernel) (by decide +kernel) k_19 (by decide) ?_
  refine y_putFR (pc := 23) dX8_init_23 fp_X8_18 k_16 (Or.inl hr) rfl ?_
  refine x_aloadn (pc := 26) dX8_init_26 rfl ?_
  refine x_iconst (pc := 27) dX8_init_27 ?_
  refine y_newI (N := 4) (q := 20) (pc := 28) dX8_init_28 rfl (by decide) (hN 20 (by decide) (by decide)) (by decide) (by decide +kernel) (by decide +kernel) k_20 (by decide) ?_
  refine y_putFR (pc := 30) dX8_init_30 fp_X8_21 k_16 (Or.inl hr) rfl ?_
  refine x_aloadn (pc := 33) dX8_init_33 rfl ?_
  refine x_iconst (pc := 34) dX8_init_34 ?_
  refine y_putI (pc := 35) dX8_init_35 fp_X8_24 k_16 (Or.inl hr) ?_
  refine x_aloadn (pc := 38) dX8_init_38 rfl ?_
  refine x_iconst (pc := 39) dX8_init_39 ?_
  refine y_putI (pc := 40) dX8_init_40 fp_X8_28 k_16 (Or.inl hr) ?_
  exact y_ret dX8_init_43 rfl
def nw_21 : List Nat := [22, 23, 24, 25]
def us_21 : List (Nat × Nat × Int) := [(21, 5, 0), (21, 4, 0), (21, 3, 25), (21, 2, 24), (21, 1, 23), (21, 0, 22)]
theorem k_init_21 {L : List Nat} {G : Nat → Nat → Int} (hr : 21 ∈ L) (hN : x_new 22 26 L) : CM yX8_init mX8_init 1 4 24 [vR 21] L G (qK L nw_21 us_21 G) := by
  refine Ct.of_X (μ := mX8_init) rfl rfl (by decide) (fun _ => rfl) (Nat.le_of_ble_eq_true rfl) rfl ?_
  refine y_start ?_
  refine x_aloadn (pc := 0) dX8_init_0 rfl ?_
  refine x_objI (pc := 1) dX8_init_1 lm_X8_3 (by decide) (Nat.le_of_ble_eq_true rfl) ?_
  refine x_aloadn (pc := 4) dX8_init_4 rfl ?_
  refine x_bipush (pc := 5) dX8_init_5 (by decide) ?_
  refine y_newI (N := 12) (q := 22) (pc := 7) dX8_init_7 rfl (by decide) (hN 22 (by decide) (by decide)) (by decide) (by decide +kernel) (by decide +kernel) k_22 (by decide) ?_
  refine y_putFR (pc := 9) dX8_init_9 fp_X8_9 k_21 (Or.inl hr) rfl ?_
  refine x_aloadn (pc := 12) dX8_init_12 rfl ?_
  refine x_iconst (pc := 13) dX8_init_13 ?_
  refine y_newI (N := 4) (q := 23) (pc := 14) dX8_init_14 rfl (by decide) (hN 23 (by decide) (by decide)) (by decide) (by decide +kernel) (by decide +kernel) k_23 (by decide) ?_
  refine y_putFR (pc := 16) dX8_init_16 fp_X8_15 k_21 (Or.inl hr) rfl ?_
  refine x_aloadn (pc := 19) dX8_init_19 rfl ?_
  refine x_iconst (pc := 20) dX8_init_20 ?_
  refine y_newI (N := 4) (q := 24) (pc := 21) dX8_init_21 rfl (by decide) (hN 24 (by decide) (by decide)) (by decide) (by decide +kernel) (by decide +kernel) k_24 (by decide) ?_
  refine y_putFR (pc := 23) dX8_init_23 fp_X8_18 k_21 (Or.inl hr) rfl ?_
  refine x_aloadn (pc := 26) dX8_init_26 rfl ?_
  refine x_iconst (pc := 27) dX8_init_27 ?_
  refine y_newI (N := 4) (q := 25) (pc := 28) dX8_init_28 rfl (by decide) (hN 25 (by decide) (by decide)) (by decide) (by decide +kernel) (by decide +kernel) k_25 (by decide) ?_
  refine y_putFR (pc := 30) dX8_init_30 fp_X8_21 k_21 (Or.inl hr) rfl ?_
  refine x_aloadn (pc := 33) dX8_init_33 rfl ?_
  refine x_iconst (pc := 34) dX8_init_34 ?_
  refine y_putI (pc := 35) dX8_init_35 fp_X8_24 k_21 (Or.inl hr) ?_
  refine x_aloadn (pc := 38) dX8_init_38 rfl ?_
  refine x_iconst (pc := 39) dX8_init_39 ?_
  refine y_putI (pc := 40) dX8_init_40 fp_X8_28 k_21 (Or.inl hr) ?_
  exact y_ret dX8_init_43 rfl
def nw_26 : List Nat := [27, 28, 29, 30]
def us_26 : List (Nat × Nat × Int) := [(26, 5, 0), (26, 4, 0), (26, 3, 30), (26, 2, 29), (26, 1, 28), (26, 0, 27)]
theorem k_init_26 {L : List Nat} {G : Nat → Nat → Int} (hr : 26 ∈ L) (hN : x_new 27 31 L) : CM yX8_init mX8_init 1 4 24 [vR 26] L G (qK L nw_26 us_26 G) := by
  refine Ct.of_X (μ := mX8_init) rfl rfl (by decide) (fun _ => rfl) (Nat.le_of_ble_eq_true rfl) rfl ?_
  refine y_start ?_
  refine x_aloadn (pc := 0) dX8_init_0 rfl ?_
  refine x_objI (pc := 1) dX8_init_1 lm_X8_3 (by decide) (Nat.le_of_ble_eq_true rfl) ?_
  refine x_aloadn (pc := 4) dX8_init_4 rfl ?_
  refine x_bipush (pc := 5) dX8_init_5 (by decide) ?_
  refine y_newI (N := 12) (q := 27) (pc := 7) dX8_init_7 rfl (by decide) (hN 27 (by decide) (by decide)) (by decide) (by decide +kernel) (by decide +kernel) k_27 (by decide) ?_
  refine y_putFR (pc := 9) dX8_init_9 fp_X8_9 k_26 (Or.inl hr) rfl ?_
  refine x_aloadn (pc := 12) dX8_init_12 rfl ?_
  refine x_iconst (pc := 13) dX8_init_13 ?_
  refine y_newI (N := 4) (q := 28) (pc := 14) dX8_init_14 rfl (by decide) (hN 28 (by decide) (by decide)) (by decide) (by decide +kernel) (by decide +kernel) k_28 (by decide) ?_
  refine y_putFR (pc := 16) dX8_init_16 fp_X8_15 k_26 (Or.inl hr) rfl ?_
  refine x_aloadn (pc := 19) dX8_init_19 rfl ?_
  refine x_iconst (pc := 20) dX8_init_20 ?_
  refine y_newI (N := 4) (q := 29) (pc := 21) dX8_init_21 rfl (by decide) (hN 29 (by decide) (by decide)) (by decide) (by decide +kernel) (by decide +kernel) k_29 (by decide) ?_
  refine y_putFR (pc := 23) dX8_init_23 fp_X8_18 k_26 (Or.inl hr) rfl ?_
  refine x_aloadn (pc := 26) dX8_init_26 rfl ?_
  refine x_iconst (pc := 27) dX8_init_27 ?_
  refine y_newI (N := 4) (q := 30) (pc := 28) dX8_init_28 rfl (by decide) (hN 30 (by decide) (by decide)) (by decide) (by decide +kernel) (by decide +kernel) k_30 (by decide) ?_
  refine y_putFR (pc := 30) dX8_init_30 fp_X8_21 k_26 (Or.inl hr) rfl ?_
  refine x_aloadn (pc := 33) dX8_init_33 rfl ?_
  refine x_iconst (pc := 34) dX8_init_34 ?_
  refine y_putI (pc := 35) dX8_init_35 fp_X8_24 k_26 (Or.inl hr) ?_
  refine x_aloadn (pc := 38) dX8_init_38 rfl ?_
  refine x_iconst (pc := 39) dX8_init_39 ?_
  refine y_putI (pc := 40) dX8_init_40 fp_X8_28 k_26 (Or.inl hr) ?_
  exact y_ret dX8_init_43 rfl
def nw_31 : List Nat := [32, 33, 34, 35]
def us_31 : List (Nat × Nat × Int) := [(31, 5, 0), (31, 4, 0), (31, 3, 35), (31, 2, 34), (31, 1, 33), (31, 0, 32)]
theorem k_init_31 {L : List Nat} {G : Nat → Nat → Int} (hr : 31 ∈ L) (hN : x_new 32 36 L) : CM yX8_init mX8_init 1 4 24 [vR 31] L G (qK L nw_31 us_31 G) := by
  refine Ct.of_X (μ := mX8_init) rfl rfl (by decide) (fun _ => rfl) (Nat.le_of_ble_eq_true rfl) rfl ?_
  refine y_start ?_
  refine x_aloadn (pc := 0) dX8_init_0 rfl ?_
  refine x_objI (pc := 1) dX8_init_1 lm_X8_3 (by decide) (Nat.le_of_ble_eq_true rfl) ?_
  refine x_aloadn (pc := 4) dX8_init_4 rfl ?_
  refine x_bipush (pc := 5) dX8_init_5 (by decide) ?_
  refine y_newI (N := 12) (q := 32) (pc := 7) dX8_init_7 rfl (by decide) (hN 32 (by decide) (by decide)) (by decide) (by decide +kernel) (by decide +kernel) k_32 (by decide) ?_
  refine y_putFR (pc := 9) dX8_init_9 fp_X8_9 k_31 (Or.inl hr) rfl ?_
  refine x_aloadn (pc := 12) dX8_init_12 rfl ?_
  refine x_iconst (pc := 13) dX8_init_13 ?_
  refine y_newI (N := 4) (q := 33) (pc := 14) dX8_init_14 rfl (by decide) (hN 33 (by decide) (by decide)) (by decide) (by decide +kernel) (by decide +kernel) k_33 (by decide) ?_
  refine y_putFR (pc := 16) dX8_init_16 fp_X8_15 k_31 (Or.inl hr) rfl ?_
  refine x_aloadn (pc := 19) dX8_init_19 rfl ?_
  refine x_iconst (pc := 20) dX8_init_20 ?_
  refine y_newI (N := 4) (q := 34) (pc := 21) dX8_init_21 rfl (by decide) (hN 34 (by decide) (by decide)) (by decide) (by decide +kernel) (by decide +kernel) k_34 (by decide) ?_
  refine y_putFR (pc := 23) dX8_init_23 fp_X8_18 k_31 (Or.inl hr) rfl ?_
  refine x_aloadn (pc := 26) dX8_init_26 rfl ?_
  refine x_iconst (pc := 27) dX8_init_27 ?_
  refine y_newI (N := 4) (q := 35) (pc := 28) dX8_init_28 rfl (by decide) (hN 35 (by decide) (by decide)) (by decide) (by decide +kernel) (by decide +kernel) k_35 (by decide) ?_
  refine y_putFR (pc := 30) dX8_init_30 fp_X8_21 k_31 (Or.inl hr) rfl ?_
  refine x_aloadn (pc := 33) dX8_init_33 rfl ?_
  refine x_iconst (pc := 34) dX8_init_34 ?_
  refine y_putI (pc := 35) dX8_init_35 fp_X8_24 k_31 (Or.inl hr) ?_
  refine x_aloadn (pc := 38) dX8_init_38 rfl ?_
  refine x_iconst (pc := 39) dX8_init_39 ?_
  refine y_putI (pc := 40) dX8_init_40 fp_X8_28 k_31 (Or.inl hr) ?_
  exact y_ret dX8_init_43 rfl
def nw_36 : List Nat := [37, 38, 39, 40]
def us_36 : List (Nat × Nat × Int) := [(36, 5, 0), (36, 4, 0), (36, 3, 40), (36, 2, 39), (36, 1, 38), (36, 0, 37)]
theorem k_init_36 {L : List Nat} {G : Nat → Nat → Int} (hr : 36 ∈ L) (hN : x_new 37 41 L) : CM yX8_init mX8_init 1 4 24 [vR 36] L G (qK L nw_36 us_36 G) := by
  refine Ct.of_X (μ := mX8_init) rfl rfl (by decide) (fun _ => rfl) (Nat.le_of_ble_eq_true rfl) rfl ?_
  refine y_start ?_
  refine x_aloadn (pc := 0) dX8_init_0 rfl ?_
  refine x_objI (pc := 1) dX8_init_1 lm_X8_3 (by decide) (Nat.le_of_ble_eq_true rfl) ?_
  refine x_aloadn (pc := 4) dX8_init_4 rfl ?_
  refine x_bipush (pc := 5) dX8_init_5 (by decide) ?_
  refine y_newI (N := 12) (q := 37) (pc := 7) dX8_init_7 rfl (by decide) (hN 37 (by decide) (by decide)) (by decide) (by decide +kernel) (by decide +kernel) k_37 (by decide) ?_
  refine y_putFR (pc := 9) dX8_init_9 fp_X8_9 k_36 (Or.inl hr) rfl ?_
  refine x_aloadn (pc := 12) dX8_init_12 rfl ?_
  refine x_iconst (pc := 13) dX8_init_13 ?_
  refine y_newI (N := 4) (q := 38) (pc := 14) dX8_init_14 rfl (by decide) (hN 38 (by decide) (by decide)) (by decide) (by decide +kernel) (by decide +kernel) k_38 (by decide) ?_
  refine y_putFR (pc := 16) dX8_init_16 fp_X8_15 k_36 (Or.inl hr) rfl ?_
  refine x_aloadn (pc := 19) dX8_init_19 rfl ?_
  refine x_iconst (pc := 20) dX8_init_20 ?_
  refine y_newI (N := 4) (q := 39) (pc := 21) dX8_init_21 rfl (by decide) (hN 39 (by decide) (by decide)) (by decide) (by decide +kernel) (by decide +kernel) k_39 (by decide) ?_
  refine y_putFR (pc := 23) dX8_init_23 fp_X8_18 k_36 (Or.inl hr) rfl ?_
  refine x_aloadn (pc := 26) dX8_init_26 rfl ?_
  refine x_iconst (pc := 27) dX8_init_27 ?_
  refine y_newI (N := 4) (q := 40) (pc := 28) dX8_init_28 rfl (by decide) (hN 40 (by decide) (by decide)) (by decide) (by decide +kernel) (by decide +kernel) k_40 (by decide) ?_
  refine y_putFR (pc := 30) dX8_init_30 fp_X8_21 k_36 (Or.inl hr) rfl ?_
  refine x_aloadn (pc := 33) dX8_init_33 rfl ?_
  refine x_iconst (pc := 34) dX8_init_34 ?_
  refine y_putI (pc := 35) dX8_init_35 fp_X8_24 k_36 (Or.inl hr) ?_
  refine x_aloadn (pc := 38) dX8_init_38 rfl ?_
  refine x_iconst (pc := 39) dX8_init_39 ?_
  refine y_putI (pc := 40) dX8_init_40 fp_X8_28 k_36 (Or.inl hr) ?_
  exact y_ret dX8_init_43 rfl
def nw_41 : List Nat := [42, 43, 44, 45]
def us_41 : List (Nat × Nat × Int) := [(41, 5, 0), (41, 4, 0), (41, 3, 45), (41, 2, 44), (41, 1, 43), (41, 0, 42)]
theorem k_init_41 {L : List Nat} {G : Nat → Nat → Int} (hr : 41 ∈ L) (hN : x_new 42 46 L) : CM yX8_init mX8_init 1 4 24 [vR 41] L G (qK L nw_41 us_41 G) := by
  refine Ct.of_X (μ := mX8_init) rfl rfl (by decide) (fun _ => rfl) (Nat.le_of_ble_eq_true rfl) rfl ?_
  refine y_start ?_
  refine x_aloadn (pc := 0) dX8_init_0 rfl ?_
  refine x_objI (pc := 1) dX8_init_1 lm_X8_3 (by decide) (Nat.le_of_ble_eq_true rfl) ?_
  refine x_aloadn (pc := 4) dX8_init_4 rfl ?_
  refine x_bipush (pc := 5) dX8_init_5 (by decide) ?_
  refine y_newI (N := 12) (q := 42) (pc := 7) dX8_init_7 rfl (by decide) (hN 42 (by decide) (by decide)) (by decide) (by decide +kernel) (by decide +kernel) k_42 (by decide) ?_
  refine y_putFR (pc := 9) dX8_init_9 fp_X8_9 k_41 (Or.inl hr) rfl ?_
  refine x_aloadn (pc := 12) dX8_init_12 rfl ?_
  refine x_iconst (pc := 13) dX8_init_13 ?_
  refine y_newI (N := 4) (q := 43) (pc := 14) dX8_init_14 rfl (by decide) (hN 43 (by decide) (by decide)) (by decide) (by decide +kernel) (by decide +kernel) k_43 (by decide) ?_
  refine y_putFR (pc := 16) dX8_init_16 fp_X8_15 k_41 (Or.inl hr) rfl ?_
  refine x_aloadn (pc := 19) dX8_init_19 rfl ?_
  refine x_iconst (pc := 20) dX8_init_20 ?_
  refine y_newI (N := 4) (q := 44) (pc := 21) dX8_init_21 rfl (by decide) (hN 44 (by decide) (by decide)) (by decide) (by decide +kernel) (by decide +kernel) k_44 (by decide) ?_
  refine y_putFR (pc := 23) dX8_init_23 fp_X8_18 k_41 (Or.inl hr) rfl ?_
  refine x_aloadn (pc := 26) dX8_init_26 rfl ?_
  refine x_iconst (pc := 27) dX8_init_27 ?_
  refine y_newI (N := 4) (q := 45) (pc := 28) dX8_init_28 rfl (by decide) (hN 45 (by decide) (by decide)) (by decide) (by decide +kernel) (by decide +kernel) k_45 (by decide) ?_
  refine y_putFR (pc := 30) dX8_init_30 fp_X8_21 k_41 (Or.inl hr) rfl ?_
  refine x_aloadn (pc := 33) dX8_init_33 rfl ?_
  refine x_iconst (pc := 34) dX8_init_34 ?_
  refine y_putI (pc := 35) dX8_init_35 fp_X8_24 k_41 (Or.inl hr) ?_
  refine x_aloadn (pc := 38) dX8_init_38 rfl ?_
  refine x_iconst (pc := 39) dX8_init_39 ?_
  refine y_putI (pc := 40) dX8_init_40 fp_X8_28 k_41 (Or.inl hr) ?_
  exact y_ret dX8_init_43 rfl
def nw_4 : List Nat := [5, 6, 7, 8, 9, 10, 11, 12, 13, 14, 15, 16, 17, 18, 19, 20, 21, 22, 23, 24, 25, 26, 27, 28, 29, 30, 31, 32, 33, 34, 35, 36, 37, 38, 39, 40, 41, 42, 43, 44, 45]
def us_4 : List (Nat × Nat × Int) := [(5, 7, 41), (41, 5, 0), (41, 4, 0), (41, 3, 45), (41, 2, 44), (41, 1, 43), (41, 0, 42), (5, 6, 36), (36, 5, 0), (36, 4, 0), (36, 3, 40), (36, 2, 39), (36, 1, 38), (36, 0, 37), (5, 5, 31), (31, 5, 0), (31, 4, 0), (31, 3, 35), (31, 2, 34), (31, 1, 33), (31, 0, 32), (5, 4, 26), (26, 5, 0), (26, 4, 0), (26, 3, 30), (26, 2, 29), (26, 1, 28), (26, 0, 27), (5, 3, 21), (21, 5, 0), (21, 4, 0), (21, 3, 25), (21, 2, 24), (21, 1, 23), (21, 0, 22), (5, 2, 16), (16, 5, 0), (16, 4, 0), (16, 3, 20), (16, 2, 19), (16, 1, 18), (16, 0, 17), (5, 1, 11), (11, 5, 0), (11, 4, 0), (11, 3, 15), (11, 2, 14), (11, 1, 13), (11, 0, 12), (5, 0, 6), (6, 5, 0), (6, 4, 0), (6, 3, 10), (6, 2, 9), (6, 1, 8), (6, 0, 7), (4, 1, 0), (4, 0, 5)]
theorem k_init_4 {L : List Nat} {G : Nat → Nat → Int} (hr : 4 ∈ L) (hN : x_new 5 46 L) : CM yX3_init mX3_init 2 41 248 [vR 4] L G (qK L nw_4 us_4 G) := by
  refine Ct.of_X (μ := mX3_init) rfl rfl (by decide) (fun _ => rfl) (Nat.le_of_ble_eq_true rfl) rfl ?_
  refine y_start ?_
  refine x_aloadn (pc := 0) dX3_init_0 rfl ?_
  refine x_objI (pc := 1) dX3_init_1 lm_X3_3 (by decide) (Nat.le_of_ble_eq_true rfl) ?_
  refine x_aloadn (pc := 4) dX3_init_4 rfl ?_
  refine x_bipush (pc := 5) dX3_init_5 (by decide) ?_
  refine y_newQ (N := 8) (q := 5) (t0 := 3) (pc := 7) dX3_init_7 lc_anewarray_X3_9 lo_S ⟨by decide, fun _ => rfl⟩ rfl (by decide) (hN 5 (by decide) (by decide)) (by decide) (by decide +kernel) (by decide +kernel) k_5 (by decide) ?_
  refine y_putFR (pc := 10) dX3_init_10 fp_X3_11 k_4 (Or.inl hr) rfl ?_
  refine x_aloadn (pc := 13) dX3_init_13 rfl ?_
  refine x_iconst (pc := 14) dX3_init_14 ?_
  refine y_putI (pc := 15) dX3_init_15 fp_X3_17 k_4 (Or.inl hr) ?_
  refine x_iconst (pc := 18) dX3_init_18 ?_
  refine x_istoren (ls' := [some (vR 4), some (vI 0)]) (pc := 19) dX3_init_19 rfl (by decide) rfl ?_
  refine x_iloadn (pc := 20) dX3_init_20 rfl ?_
  refine x_aloadn (pc := 21) dX3_init_21 rfl ?_
  refine y_getR 5 (pc := 22) dX3_init_22 fl_X3_11 k_4 (Or.inl hr) (by decide +kernel) ?_
  refine y_alen (pc := 25) dX3_init_25 k_5 (by decide) (Or.inr (by decide +kernel)) ?_
  refine x_cge (tgt := 48) (pc := 26) dX3_init_26 (by decide) (by decide) (fun c_26 => ?_) (fun c_26 => ?_)
  · exact absurd c_26 (by decide)
  refine x_aloadn (pc := 29) dX3_init_29 rfl ?_
  refine y_getR 5 (pc := 30) dX3_init_30 fl_X3_11 k_4 (Or.inl hr) (by decide +kernel) ?_
  refine x_iloadn (pc := 33) dX3_init_33 rfl ?_
  refine y_newO (q := 6) (pc := 34) dX3_init_34 rfl inX8 tyX8_ok lc_new_X3_9 ln_X8 lt_X8 (by decide) ftX8 (hN 6 (by decide) (by decide)) (by decide) (by decide +kernel) (by decide +kernel) k_6 (by decide) ?_
  refine x_dup (pc := 37) dX3_init_37 (fun h => by cases h) ?_
  refine y_callIN (pc := 38) dX3_init_38 lk_X3_21 (k_init_6 (List.mem_append.mpr (Or.inr (by decide +kernel))) ((hN.mono (by decide) (by decide)).app (by decide +kernel))) (Or.inr (by decide +kernel)) ⟨by decide, by decide⟩ (by decide) (Nat.le_of_ble_eq_true rfl) (by decide +kernel) ?_
  refine y_astQ (t0 := 3) 0 (pc := 41) dX3_init_41 k_5 (Or.inr (by decide +kernel)) k_6 (Or.inr (by decide +kernel)) ⟨by decide, fun _ => rfl⟩ ⟨by decide, rfl⟩ (by decide) ?_
  refine x_iinc (ls' := [some (vR 4), some (vI 1)]) (pc := 42) dX3_init_42 rfl (by decide) rfl ?_
  refine x_goto (tgt := 20) (pc := 45) dX3_init_45 (by decide) ?_
  refine x_iloadn (pc := 20) dX3_init_20 rfl ?_
  refine x_aloadn (pc := 21) dX3_init_21 rfl ?_
  refine y_getR 5 (pc := 22) dX3_init_22 fl_X3_11 k_4 (Or.inl hr) (by decide +kernel) ?_
  refine y_alen (pc := 25) dX3_init_25 k_5 (by decide) (Or.inr (by decide +kernel)) ?_
  refine x_cge (tgt := 48) (pc := 26) dX3_init_26 (by decide) (by decide) (fun c_26 => ?_) (fun c_26 => ?_)
  · exact absurd c_26 (by decide)
  refine x_aloadn (pc := 29) dX3_init_29 rfl ?_
  refine y_getR 5 (pc := 30) dX3_init_30 fl_X3_11 k_4 (Or.inl hr) (by decide +kernel) ?_
  refine x_iloadn (pc := 33) dX3_init_33 rfl ?_
  refine y_newO (q := 11) (pc := 34) dX3_init_34 rfl inX8 tyX8_ok lc_new_X3_9 ln_X8 lt_X8 (by decide) ftX8 (hN 11 (by decide) (by decide)) (by decide) (by decide +kernel) (by decide +kernel) k_11 (by decide) ?_
  refine x_dup (pc := 37) dX3_init_37 (fun h => by cases h) ?_
  refine y_callIN (pc := 38) dX3_init_38 lk_X3_21 (k_init_11 (List.mem_append.mpr (Or.inr (by decide +kernel))) ((hN.mono (by decide) (by decide)).app (by decide +kernel))) (Or.inr (by decide +kernel)) ⟨by decide, by decide⟩ (by decide) (Nat.le_of_ble_eq_true rfl) (by decide +kernel) ?_
  refine y_astQ (t0 := 3) 1 (pc := 41) dX3_init_41 k_5 (Or.inr (by decide +kernel)) k_11 (Or.inr (by decide +kernel)) ⟨by decide, fun _ => rfl⟩ ⟨by decide, rfl⟩ (by decide) ?_
  refine x_iinc (ls' := [some (vR 4), some (vI 2)]) (pc := 42) dX3_init_42 rfl (by decide) rfl ?_
  refine x_goto (tgt := 20) (pc := 45) dX3_init_45 (by decide) ?_
  refine x_iloadn (pc := 20) dX3_init_20 rfl ?_
  refine x_aloadn (pc := 21) dX3_init_21 rfl ?_
  refine y_getR 5 (pc := 22) dX3_init_22 fl_X3_11 k_4 (Or.inl hr) (by decide +kernel) ?_
  refine y_alen (pc := 25) dX3_init_25 k_5 (by decide) (Or.inr (by decide +kernel)) ?_
  refine x_cge (tgt := 48) (pc := 26) dX3_init_26 (by decide) (by decide) (fun c_26 => ?_) (fun c_26 => ?_)
  · exact absurd c_26 (by decide)
  refine x_aloadn (pc := 29) dX3_init_29 rfl ?_
  refine y_getR 5 (pc := 30) dX3_init_30 fl_X3_11 k_4 (Or.inl hr) (by decide +kernel) ?_
  refine x_iloadn (pc := 33) dX3_init_33 rfl ?_
  refine y_newO (q := 16) (pc := 34) dX3_init_34 rfl inX8 tyX8_ok lc_new_X3_9 ln_X8 lt_X8 (by decide) ftX8 (hN 16 (by decide) (by decide)) (by decide) (by decide +kernel) (by decide +kernel) k_16 (by decide) ?_
  refine x_dup (pc := 37) dX3_init_37 (fun h => by cases h) ?_
  refine y_callIN (pc := 38) dX3_init_38 lk_X3_21 (k_init_16 (List.mem_append.mpr (Or.inr (by decide +kernel))) ((hN.mono (by decide) (by decide)).app (by decide +kernel))) (Or.inr (by decide +kernel)) ⟨by decide, by decide⟩ (by decide) (Nat.le_of_ble_eq_true rfl) (by decide +kernel) ?_
  refine y_astQ (t0 := 3) 2 (pc := 41) dX3_init_41 k_5 (Or.inr (by decide +kernel)) k_16 (Or.inr (by decide +kernel)) ⟨by decide, fun _ => rfl⟩ ⟨by decide, rfl⟩ (by decide) ?_
  refine x_iinc (ls' := [some (vR 4), some (vI 3)]) (pc := 42) dX3_init_42 rfl (by decide) rfl ?_
  refine x_goto (tgt := 20) (pc := 45) dX3_init_45 (by decide) ?_
  refine x_iloadn (pc := 20) dX3_init_20 rfl ?_
  refine x_aloadn (pc := 21) dX3_init_21 rfl ?_
  refine y_getR 5 (pc := 22) dX3_init_22 fl_X3_11 k_4 (Or.inl hr) (by decide +kernel) ?_
  refine y_alen (pc := 25) dX3_init_25 k_5 (by decide) (Or.inr (by decide +kernel)) ?_
  refine x_cge (tgt := 48) (pc := 26) dX3_init_26 (by decide) (by decide) (fun c_26 => ?_) (fun c_26 => ?_)
  · exact absurd c_26 (by decide)
  refine x_aloadn (pc := 29) dX3_init_29 rfl ?_
  refine y_getR 5 (pc := 30) dX3_init_30 fl_X3_11 k_4 (Or.inl hr) (by decide +kernel) ?_
  refine x_iloadn (pc := 33) dX3_init_33 rfl ?_
  refine y_newO (q := 21) (pc := 34) dX3_init_34 rfl inX8 tyX8_ok lc_new_X3_9 ln_X8 lt_X8 (by decide) ftX8 (hN 21 (by decide) (by decide)) (by decide) (by decide +kernel) (by decide +kernel) k_21 (by decide) ?_
  refine x_dup (pc := 37) dX3_init_37 (fun h => by cases h) ?_
  refine y_callIN (pc := 38) dX3_init_38 lk_X3_21 (k_init_21 (List.mem_append.mpr (Or.inr (by decide +kernel))) ((hN.mono (by decide) (by decide)).app (by decide +kernel))) (Or.inr (by decide +kernel)) ⟨by decide, by decide⟩ (by decide) (Nat.le_of_ble_eq_true rfl) (by decide +kernel) ?_
  refine y_astQ (t0 := 3) 3 (pc := 41) dX3_init_41 k_5 (Or.inr (by decide +kernel)) k_21 (Or.inr (by decide +kernel)) ⟨by decide, fun _ => rfl⟩ ⟨by decide, rfl⟩ (by decide) ?_
  refine x_iinc (ls' := [some (vR 4), some (vI 4)]) (pc := 42) dX3_init_42 rfl (by decide) rfl ?_
  refine x_goto (tgt := 20) (pc := 45) dX3_init_45 (by decide) ?_
  refine x_iloadn (pc := 20) dX3_init_20 rfl ?_
  refine x_aloadn (pc := 21) dX3_init_21 rfl ?_
  refine y_getR 5 (pc := 22) dX3_init_22 fl_X3_11 k_4 (Or.inl hr) (by decide +kernel) ?_
  refine y_alen (pc := 25) dX3_init_25 k_5 (by decide) (Or.inr (by decide +kernel)) ?_
  refine x_cge (tgt := 48) (pc := 26) dX3_init_26 (by decide) (by decide) (fun c_26 => ?_) (fun c_26 => ?_)
  · exact absurd c_26 (by decide)
  refine x_aloadn (pc := 29) dX3_init_29 rfl ?_
  refine y_getR 5 (pc := 30) dX3_init_30 fl_X3_11 k_4 (Or.inl hr) (by decide +kernel) ?_
  refine x_iloadn (pc := 33) dX3_init_33 rfl ?_
  refine y_newO (q := 26) (pc := 34) dX3_init_34 rfl inX8 tyX8_ok lc_new_X3_9 ln_X8 lt_X8 (by decide) ftX8 (hN 26 (by decide) (by decide)) (by decide) (by decide +kernel) (by decide +kernel) k_26 (by decide) ?_
  refine x_dup (pc := 37) dX3_init_37 (fun h => by cases h) ?_
  refine y_callIN (pc := 38) dX3_init_38 lk_X3_21 (k_init_26 (List.mem_append.mpr (Or.inr (by decide +kernel))) ((hN.mono (by decide) (by decide)).app (by decide +kernel))) (Or.inr (by decide +kernel)) ⟨by decide, by decide⟩ (by decide) (Nat.le_of_ble_eq_true rfl) (by decide +kernel) ?_
  refine y_astQ (t0 := 3) 4 (pc := 41) dX3_init_41 k_5 (Or.inr (by decide +kernel)) k_26 (Or.inr (by decide +kernel)) ⟨by decide, fun _ => rfl⟩ ⟨by decide, rfl⟩ (by decide) ?_
  refine x_iinc (ls' := [some (vR 4), some (vI 5)]) (pc := 42) dX3_init_42 rfl (by decide) rfl ?_
  refine x_goto (tgt := 20) (pc := 45) dX3_init_45 (by decide) ?_
  refine x_iloadn (pc := 20) dX3_init_20 rfl ?_
  refine x_aloadn (pc := 21) dX3_init_21 rfl ?_
  refine y_getR 5 (pc := 22) dX3_init_22 fl_X3_11 k_4 (Or.inl hr) (by decide +kernel) ?_
  refine y_alen (pc := 25) dX3_init_25 k_5 (by decide) (Or.inr (by decide +kernel)) ?_
  refine x_cge (tgt := 48) (pc := 26) dX3_init_26 (by decide) (by decide) (fun c_26 => ?_) (fun c_26 => ?_)
  · exact absurd c_26 (by decide)
  refine x_aloadn (pc := 29) dX3_init_29 rfl ?_
  refine y_getR 5 (pc := 30) dX3_init_30 fl_X3_11 k_4 (Or.inl hr) (by decide +kernel) ?_
  refine x_iloadn (pc := 33) dX3_init_33 rfl ?_
  refine y_newO (q := 31) (pc := 34) dX3_init_34 rfl inX8 tyX8_ok lc_new_X3_9 ln_X8 lt_X8 (by decide) ftX8 (hN 31 (by decide) (by decide)) (by decide) (by decide +kernel) (by decide +kernel) k_31 (by decide) ?_
  refine x_dup (pc := 37) dX3_init_37 (fun h => by cases h) ?_
  refine y_callIN (pc := 38) dX3_init_38 lk_X3_21 (k_init_31 (List.mem_append.mpr (Or.inr (by decide +kernel))) ((hN.mono (by decide) (by decide)).app (by decide +kernel))) (Or.inr (by decide +kernel)) ⟨by decide, by decide⟩ (by decide) (Nat.le_of_ble_eq_true rfl) (by decide +kernel) ?_
  refine y_astQ (t0 := 3) 5 (pc := 41) dX3_init_41 k_5 (Or.inr (by decide +kernel)) k_31 (Or.inr (by decide +kernel)) ⟨by decide, fun _ => rfl⟩ ⟨by decide, rfl⟩ (by decide) ?_
  refine x_iinc (ls' := [some (vR 4), some (vI 6)]) (pc := 42) dX3_init_42 rfl (by decide) rfl ?_
  refine x_goto (tgt := 20) (pc := 45) dX3_init_45 (by decide) ?_
  refine x_iloadn (pc := 20) dX3_init_20 rfl ?_
  refine x_aloadn (pc := 21) dX3_init_21 rfl ?_
  refine y_getR 5 (pc := 22) dX3_init_22 fl_X3_11 k_4 (Or.inl hr) (by decide +kernel) ?_
  refine y_alen (pc := 25) dX3_init_25 k_5 (by decide) (Or.inr (by decide +kernel)) ?_
  refine x_cge (tgt := 48) (pc := 26) dX3_init_26 (by decide) (by decide) (fun c_26 => ?_) (fun c_26 => ?_)
  · exact absurd c_26 (by decide)
  refine x_aloadn (pc := 29) dX3_init_29 rfl ?_
  refine y_getR 5 (pc := 30) dX3_init_30 fl_X3_11 k_4 (Or.inl hr) (by decide +kernel) ?_
  refine x_iloadn (pc := 33) dX3_init_33 rfl ?_
  refine y_newO (q := 36) (pc := 34) dX3_init_34 rfl inX8 tyX8_ok lc_new_X3_9 ln_X8 lt_X8 (by decide) ftX8 (hN 36 (by decide) (by decide)) (by decide) (by decide +kernel) (by decide +kernel) k_36 (by decide) ?_
  refine x_dup (pc := 37) dX3_init_37 (fun h => by cases h) ?_
  refine y_callIN (pc := 38) dX3_init_38 lk_X3_21 (k_init_36 (List.mem_append.mpr (Or.inr (by decide +kernel))) ((hN.mono (by decide) (by decide)).app (by decide +kernel))) (Or.inr (by decide +kernel)) ⟨by decide, by decide⟩ (by decide) (Nat.le_of_ble_eq_true rfl) (by decide +kernel) ?_
  refine y_astQ (t0 := 3) 6 (pc := 41) dX3_init_41 k_5 (Or.inr (by decide +kernel)) k_36 (Or.inr (by decide +kernel)) ⟨by decide, fun _ => rfl⟩ ⟨by decide, rfl⟩ (by decide) ?_
  refine x_iinc (ls' := [some (vR 4), some (vI 7)]) (pc := 42) dX3_init_42 rfl (by decide) rfl ?_
  refine x_goto (tgt := 20) (pc := 45) dX3_init_45 (by decide) ?_
  refine x_iloadn (pc := 20) dX3_init_20 rfl ?_
  refine x_aloadn (pc := 21) dX3_init_21 rfl ?_
  refine y_getR 5 (pc := 22) dX3_init_22 fl_X3_11 k_4 (Or.inl hr) (by decide +kernel) ?_
  refine y_alen (pc := 25) dX3_init_25 k_5 (by decide) (Or.inr (by decide +kernel)) ?_
  refine x_cge (tgt := 48) (pc := 26) dX3_init_26 (by decide) (by decide) (fun c_26 => ?_) (fun c_26 => ?_)
  · exact absurd c_26 (by decide)
  refine x_aloadn (pc := 29) dX3_init_29 rfl ?_
  refine y_getR 5 (pc := 30) dX3_init_30 fl_X3_11 k_4 (Or.inl hr) (by decide +kernel) ?_
  refine x_iloadn (pc := 33) dX3_init_33 rfl ?_
  refine y_newO (q := 41) (pc := 34) dX3_init_34 rfl inX8 tyX8_ok lc_new_X3_9 ln_X8 lt_X8 (by decide) ftX8 (hN 41 (by decide) (by decide)) (by decide) (by decide +kernel) (by decide +kernel) k_41 (by decide) ?_
  refine x_dup (pc := 37) dX3_init_37 (fun h => by cases h) ?_
  refine y_callIN (pc := 38) dX3_init_38 lk_X3_21 (k_init_41 (List.mem_append.mpr (Or.inr (by decide +kernel))) ((hN.mono (by decide) (by decide)).app (by decide +kernel))) (Or.inr (by decide +kernel)) ⟨by decide, by decide⟩ (by decide) (Nat.le_of_ble_eq_true rfl) (by decide +kernel) ?_
  refine y_astQ (t0 := 3) 7 (pc := 41) dX3_init_41 k_5 (Or.inr (by decide +kernel)) k_41 (Or.inr (by decide +kernel)) ⟨by decide, fun _ => rfl⟩ ⟨by decide, rfl⟩ (by decide) ?_
  refine x_iinc (ls' := [some (vR 4), some (vI 8)]) (pc := 42) dX3_init_42 rfl (by decide) rfl ?_
  refine x_goto (tgt := 20) (pc := 45) dX3_init_45 (by decide) ?_
  refine x_iloadn (pc := 20) dX3_init_20 rfl ?_
  refine x_aloadn (pc := 21) dX3_init_21 rfl ?_
  refine y_getR 5 (pc := 22) dX3_init_22 fl_X3_11 k_4 (Or.inl hr) (by decide +kernel) ?_
  refine y_alen (pc := 25) dX3_init_25 k_5 (by decide) (Or.inr (by decide +kernel)) ?_
  refine x_cge (tgt := 48) (pc := 26) dX3_init_26 (by decide) (by decide) (fun c_26 => ?_) (fun c_26 => ?_)
  rotate_left
  · exact absurd c_26 (by decide)
  exact y_ret dX3_init_48 rfl
def nw_2 : List Nat := [3]
def us_2 : List (Nat × Nat × Int) := [(2, 1, 0), (2, 0, 3)]
theorem k_init_2 {L : List Nat} {G : Nat → Nat → Int} (hr : 2 ∈ L) (hN : x_new 3 4 L) : CM yX9_init mX9_init 1 1 100 [vR 2] L G (qK L nw_2 us_2 G) := by
  refine Ct.of_X (μ := mX9_init) rfl rfl (by decide) (fun _ => rfl) (Nat.le_of_ble_eq_true rfl) rfl ?_
  refine y_start ?_
  refine x_aloadn (pc := 0) dX9_init_0 rfl ?_
  refine x_objI (pc := 1) dX9_init_1 lm_X9_3 (by decide) (Nat.le_of_ble_eq_true rfl) ?_
  refine x_aloadn (pc := 4) dX9_init_4 rfl ?_
  refine x_bipush (pc := 5) dX9_init_5 (by decide) ?_
  refine y_newI (N := 100) (q := 3) (pc := 7) dX9_init_7 rfl (by decide) (hN 3 (by decide) (by decide)) (by decide) (by decide +kernel) (by decide +kernel) k_3 (by decide) ?_
  refine y_putFR (pc := 9) dX9_init_9 fp_X9_9 k_2 (Or.inl hr) rfl ?_
  refine x_aloadn (pc := 12) dX9_init_12 rfl ?_
  refine x_iconst (pc := 13) dX9_init_13 ?_
  refine y_putI (pc := 14) dX9_init_14 fp_X9_15 k_2 (Or.inl hr) ?_
  exact y_ret dX9_init_17 rfl

