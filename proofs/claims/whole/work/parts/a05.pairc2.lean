/-! the class: heads, puttings, striking, putting, reading -/
section XPD
variable {L : List Nat} {A B : List Nat} {t : Nat}
theorem c_he_head0 {G : Nat → Nat → Int} (hL : x_SL L) (hM : x_GM L) (hF : x_Fin xFL G) (hG : x_Fin xGL G) (h : c_he A B 0 G) (hA : zb8 A) (hn : A.length ≤ 32) :
    CM yX6_head mX6_head 0 0 0 [vR 174, vI 0] L G (qI L fun x G' => x = zhd A ∧ G' = G) := by
  obtain ⟨s0, s1, a3, a4, st⟩ := id h
  refine Ct.of_X (μ := mX6_head) rfl rfl (by decide) (fun h => by cases h) (Nat.le_of_ble_eq_true rfl) rfl ?_
  refine x_aloadn (pc := 0) dX6_head_0 rfl ?_
  refine x_getI (pc := 1) dX6_head_1 fl_X6_20 k_174 (hM 174 (by decide) (by decide)) ?_
  rw [st]
  refine x_aloadn (pc := 4) dX6_head_4 rfl ?_
  refine x_getR (178) (pc := 5) dX6_head_5 fl_X6_16 k_174 (hM 174 (by decide) (by decide)) (f_174_1 hG) ?_
  refine x_iloadn (pc := 8) dX6_head_8 rfl ?_
  refine x_iald (0) (pc := 9) dX6_head_9 k_178 (hM 178 (by decide) (by decide)) (⟨rfl, by decide, by decide⟩) ?_
  rw [s0]
  refine x_cge (tgt := 27) (pc := 10) dX6_head_10 (by decide) (by omega) (fun c_10 => ?_) (fun c_10 => ?_)
  · skip
    refine x_iconst (pc := 27) dX6_head_27 ?_
    refine x_rI (pc := 28) dX6_head_28 rfl ?_
    refine ⟨?_, rfl⟩
    rw [zhd_at]
    first
    | rw [if_pos (by omega)]
    | rw [if_neg (by omega)]
  · skip
    refine x_aloadn (pc := 13) dX6_head_13 rfl ?_
    refine x_getR (175) (pc := 14) dX6_head_14 fl_X6_13 k_174 (hM 174 (by decide) (by decide)) (f_174_0 hG) ?_
    refine x_iloadn (pc := 17) dX6_head_17 rfl ?_
    refine x_aald (176) (0) (pc := 18) dX6_head_18 k_175 (by decide) (hM 175 (by decide) (by decide)) (⟨rfl, by decide, by decide⟩) (f_175_0 hG) ?_
    refine x_aloadn (pc := 19) dX6_head_19 rfl ?_
    refine x_getI (pc := 20) dX6_head_20 fl_X6_20 k_174 (hM 174 (by decide) (by decide)) ?_
    rw [st]
    refine x_iald (0) (pc := 23) dX6_head_23 k_176 (hM 176 (by decide) (by decide)) (⟨rfl, by decide, by decide⟩) ?_
    rw [a3 0 (by omega)]
    refine x_goto (tgt := 28) (pc := 24) dX6_head_24 (by decide) ?_
    refine x_rI (pc := 28) dX6_head_28 rfl ?_
    refine ⟨?_, rfl⟩
    rw [zhd_at]
    first
    | rw [if_pos (by omega)]
    | rw [if_neg (by omega)]
theorem c_he_head1 {G : Nat → Nat → Int} (hL : x_SL L) (hM : x_GM L) (hF : x_Fin xFL G) (hG : x_Fin xGL G) (h : c_he A B 0 G) (hA : zb8 B) (hn : B.length ≤ 32) :
    CM yX6_head mX6_head 0 0 0 [vR 174, vI 1] L G (qI L fun x G' => x = zhd B ∧ G' = G) := by
  obtain ⟨s0, s1, a3, a4, st⟩ := id h
  refine Ct.of_X (μ := mX6_head) rfl rfl (by decide) (fun h => by cases h) (Nat.le_of_ble_eq_true rfl) rfl ?_
  refine x_aloadn (pc := 0) dX6_head_0 rfl ?_
  refine x_getI (pc := 1) dX6_head_1 fl_X6_20 k_174 (hM 174 (by decide) (by decide)) ?_
  rw [st]
  refine x_aloadn (pc := 4) dX6_head_4 rfl ?_
  refine x_getR (178) (pc := 5) dX6_head_5 fl_X6_16 k_174 (hM 174 (by decide) (by decide)) (f_174_1 hG) ?_
  refine x_iloadn (pc := 8) dX6_head_8 rfl ?_
  refine x_iald (1) (pc := 9) dX6_head_9 k_178 (hM 178 (by decide) (by decide)) (⟨rfl, by decide, by decide⟩) ?_
  rw [s1]
  refine x_cge (tgt := 27) (pc := 10) dX6_head_10 (by decide) (by omega) (fun c_10 => ?_) (fun c_10 => ?_)
  · skip
    refine x_iconst (pc := 27) dX6_head_27 ?_
    refine x_rI (pc := 28) dX6_head_28 rfl ?_
    refine ⟨?_, rfl⟩
    rw [zhd_at]
    first
    | rw [if_pos (by omega)]
    | rw [if_neg (by omega)]
  · skip
    refine x_aloadn (pc := 13) dX6_head_13 rfl ?_
    refine x_getR (175) (pc := 14) dX6_head_14 fl_X6_13 k_174 (hM 174 (by decide) (by decide)) (f_174_0 hG) ?_
    refine x_iloadn (pc := 17) dX6_head_17 rfl ?_
    refine x_aald (177) (1) (pc := 18) dX6_head_18 k_175 (by decide) (hM 175 (by decide) (by decide)) (⟨rfl, by decide, by decide⟩) (f_175_1 hG) ?_
    refine x_aloadn (pc := 19) dX6_head_19 rfl ?_
    refine x_getI (pc := 20) dX6_head_20 fl_X6_20 k_174 (hM 174 (by decide) (by decide)) ?_
    rw [st]
    refine x_iald (0) (pc := 23) dX6_head_23 k_177 (hM 177 (by decide) (by decide)) (⟨rfl, by decide, by decide⟩) ?_
    rw [a4 0 (by omega)]
    refine x_goto (tgt := 28) (pc := 24) dX6_head_24 (by decide) ?_
    refine x_rI (pc := 28) dX6_head_28 rfl ?_
    refine ⟨?_, rfl⟩
    rw [zhd_at]
    first
    | rw [if_pos (by omega)]
    | rw [if_neg (by omega)]
theorem zisU {x a : Int} (h : x = if 4 ≤ a then 1 else 0) : (x = 1 ∧ 4 ≤ a) ∨ (x = 0 ∧ a < 4) := by
  by_cases c : 4 ≤ a
  · rw [if_pos c] at h; exact Or.inl ⟨h, c⟩
  · rw [if_neg c] at h; exact Or.inr ⟨h, by omega⟩
theorem c_he_puttings {G : Nat → Nat → Int} (hL : x_SL L) (hM : x_GM L) (hF : x_Fin xFL G) (hG : x_Fin xGL G) (h : c_he A B 0 G) (hA : zb8 A) (hB : zb8 B) (hn : A.length ≤ 32 ∧ B.length ≤ 32) :
    CM yX6_puttings mX6_puttings 1 0 0 [vR 174] L G (qI L fun x G' => x = ((zqn (zhd A) (zhd B) : Nat) : Int) ∧ G' = G) := by
  have b1 := zhd_bd hA
  have b2 := zhd_bd hB
  refine Ct.of_X (μ := mX6_puttings) rfl rfl (by decide) (fun h => by cases h) (Nat.le_of_ble_eq_true rfl) rfl ?_
  refine x_aloadn (pc := 0) dX6_puttings_0 rfl ?_
  refine x_iconst (pc := 1) dX6_puttings_1 ?_
  refine x_cVI (pc := 2) dX6_puttings_2 lk_X6_61 (c_he_head0 hL hM hF hG h hA hn.1) k_174 ⟨by decide, rfl⟩ (hM 174 (by decide) (by decide)) (⟨by decide, by decide⟩) (Nat.le_of_ble_eq_true rfl) rfl ?_
  rintro x G' ⟨rfl, rfl⟩
  refine x_cSNI (pc := 5) dX6_puttings_5 lk_X6_54 (c_ts_isU (by omega)) (⟨by decide, by decide⟩) (Nat.le_of_ble_eq_true rfl) rfl ?_
  rintro x G' ⟨e5, rfl⟩
  have f5 := zisU e5
  refine x_istoren (pc := 8) dX6_puttings_8 rfl (by decide) rfl ?_
  refine x_aloadn (pc := 9) dX6_puttings_9 rfl ?_
  refine x_iconst (pc := 10) dX6_puttings_10 ?_
  refine x_cVI (pc := 11) dX6_puttings_11 lk_X6_61 (c_he_head1 hL hM hF hG h hB hn.2) k_174 ⟨by decide, rfl⟩ (hM 174 (by decide) (by decide)) (⟨by decide, by decide⟩) (Nat.le_of_ble_eq_true rfl) rfl ?_
  rintro x G' ⟨rfl, rfl⟩
  refine x_cSNI (pc := 14) dX6_puttings_14 lk_X6_54 (c_ts_isU (by omega)) (⟨by decide, by decide⟩) (Nat.le_of_ble_eq_true rfl) rfl ?_
  rintro y G' ⟨e14, rfl⟩
  have f14 := zisU e14
  refine x_istoren (pc := 17) dX6_puttings_17 rfl (by decide) rfl ?_
  refine x_iloadn (pc := 18) dX6_puttings_18 rfl ?_
  refine x_ieq (tgt := 28) (pc := 19) dX6_puttings_19 (by decide) (by omega) (fun c_19 => ?_) (fun c_19 => ?_)
  · skip
    refine x_iloadn (pc := 28) dX6_puttings_28 rfl ?_
    refine x_ine (tgt := 38) (pc := 29) dX6_puttings_29 (by decide) (by omega) (fun c_29 => ?_) (fun c_29 => ?_)
    · skip
      refine x_iloadn (pc := 38) dX6_puttings_38 rfl ?_
      refine x_ieq (tgt := 50) (pc := 39) dX6_puttings_39 (by decide) (by omega) (fun c_39 => ?_) (fun c_39 => ?_)
      · skip
        refine x_aloadn (pc := 50) dX6_puttings_50 rfl ?_
        refine x_iconst (pc := 51) dX6_puttings_51 ?_
        refine x_cVI (pc := 52) dX6_puttings_52 lk_X6_61 (c_he_head0 hL hM hF hG h hA hn.1) k_174 ⟨by decide, rfl⟩ (hM 174 (by decide) (by decide)) (⟨by decide, by decide⟩) (Nat.le_of_ble_eq_true rfl) rfl ?_
        rintro x G' ⟨rfl, rfl⟩
        refine x_iconst (pc := 55) dX6_puttings_55 ?_
        refine x_cne (tgt := 63) (pc := 56) dX6_puttings_56 (by decide) (by omega) (fun c_56 => ?_) (fun c_56 => ?_)
        · skip
          refine x_iconst (pc := 63) dX6_puttings_63 ?_
          refine x_rI (pc := 64) dX6_puttings_64 rfl ?_
          exact ⟨by unfold zqn; (repeat' split) <;> omega, rfl⟩
        · skip
          refine x_iconst (pc := 59) dX6_puttings_59 ?_
          refine x_goto (tgt := 64) (pc := 60) dX6_puttings_60 (by decide) ?_
          refine x_rI (pc := 64) dX6_puttings_64 rfl ?_
          exact ⟨by unfold zqn; (repeat' split) <;> omega, rfl⟩
      · skip
        refine x_aloadn (pc := 42) dX6_puttings_42 rfl ?_
        refine x_iconst (pc := 43) dX6_puttings_43 ?_
        refine x_cVI (pc := 44) dX6_puttings_44 lk_X6_61 (c_he_head1 hL hM hF hG h hB hn.2) k_174 ⟨by decide, rfl⟩ (hM 174 (by decide) (by decide)) (⟨by decide, by decide⟩) (Nat.le_of_ble_eq_true rfl) rfl ?_
        rintro x G' ⟨rfl, rfl⟩
        refine x_goto (tgt := 55) (pc := 47) dX6_puttings_47 (by decide) ?_
        refine x_iconst (pc := 55) dX6_puttings_55 ?_
        refine x_cne (tgt := 63) (pc := 56) dX6_puttings_56 (by decide) (by omega) (fun c_56 => ?_) (fun c_56 => ?_)
        · skip
          refine x_iconst (pc := 63) dX6_puttings_63 ?_
          refine x_rI (pc := 64) dX6_puttings_64 rfl ?_
          exact ⟨by unfold zqn; (repeat' split) <;> omega, rfl⟩
        · skip
          refine x_iconst (pc := 59) dX6_puttings_59 ?_
          refine x_goto (tgt := 64) (pc := 60) dX6_puttings_60 (by decide) ?_
          refine x_rI (pc := 64) dX6_puttings_64 rfl ?_
          exact ⟨by unfold zqn; (repeat' split) <;> omega, rfl⟩
    · skip
      refine x_iloadn (pc := 32) dX6_puttings_32 rfl ?_
      refine x_ine (tgt := 38) (pc := 33) dX6_puttings_33 (by decide) (by omega) (fun c_33 => ?_) (fun c_33 => ?_)
      · skip
        refine x_iloadn (pc := 38) dX6_puttings_38 rfl ?_
        refine x_ieq (tgt := 50) (pc := 39) dX6_puttings_39 (by decide) (by omega) (fun c_39 => ?_) (fun c_39 => ?_)
        · skip
          refine x_aloadn (pc := 50) dX6_puttings_50 rfl ?_
          refine x_iconst (pc := 51) dX6_puttings_51 ?_
          refine x_cVI (pc := 52) dX6_puttings_52 lk_X6_61 (c_he_head0 hL hM hF hG h hA hn.1) k_174 ⟨by decide, rfl⟩ (hM 174 (by decide) (by decide)) (⟨by decide, by decide⟩) (Nat.le_of_ble_eq_true rfl) rfl ?_
          rintro x G' ⟨rfl, rfl⟩
          refine x_iconst (pc := 55) dX6_puttings_55 ?_
          refine x_cne (tgt := 63) (pc := 56) dX6_puttings_56 (by decide) (by omega) (fun c_56 => ?_) (fun c_56 => ?_)
          · skip
            refine x_iconst (pc := 63) dX6_puttings_63 ?_
            refine x_rI (pc := 64) dX6_puttings_64 rfl ?_
            exact ⟨by unfold zqn; (repeat' split) <;> omega, rfl⟩
          · skip
            refine x_iconst (pc := 59) dX6_puttings_59 ?_
            refine x_goto (tgt := 64) (pc := 60) dX6_puttings_60 (by decide) ?_
            refine x_rI (pc := 64) dX6_puttings_64 rfl ?_
            exact ⟨by unfold zqn; (repeat' split) <;> omega, rfl⟩
        · skip
          refine x_aloadn (pc := 42) dX6_puttings_42 rfl ?_
          refine x_iconst (pc := 43) dX6_puttings_43 ?_
          refine x_cVI (pc := 44) dX6_puttings_44 lk_X6_61 (c_he_head1 hL hM hF hG h hB hn.2) k_174 ⟨by decide, rfl⟩ (hM 174 (by decide) (by decide)) (⟨by decide, by decide⟩) (Nat.le_of_ble_eq_true rfl) rfl ?_
          rintro x G' ⟨rfl, rfl⟩
          refine x_goto (tgt := 55) (pc := 47) dX6_puttings_47 (by decide) ?_
          refine x_iconst (pc := 55) dX6_puttings_55 ?_
          refine x_cne (tgt := 63) (pc := 56) dX6_puttings_56 (by decide) (by omega) (fun c_56 => ?_) (fun c_56 => ?_)
          · skip
            refine x_iconst (pc := 63) dX6_puttings_63 ?_
            refine x_rI (pc := 64) dX6_puttings_64 rfl ?_
            exact ⟨by unfold zqn; (repeat' split) <;> omega, rfl⟩
          · skip
            refine x_iconst (pc := 59) dX6_puttings_59 ?_
            refine x_goto (tgt := 64) (pc := 60) dX6_puttings_60 (by decide) ?_
            refine x_rI (pc := 64) dX6_puttings_64 rfl ?_
            exact ⟨by unfold zqn; (repeat' split) <;> omega, rfl⟩
      · skip
        refine x_iconst (pc := 36) dX6_puttings_36 ?_
        refine x_rI (pc := 37) dX6_puttings_37 rfl ?_
        exact ⟨by unfold zqn; (repeat' split) <;> omega, rfl⟩
  · skip
    refine x_iloadn (pc := 22) dX6_puttings_22 rfl ?_
    refine x_ieq (tgt := 28) (pc := 23) dX6_puttings_23 (by decide) (by omega) (fun c_23 => ?_) (fun c_23 => ?_)
    · skip
      refine x_iloadn (pc := 28) dX6_puttings_28 rfl ?_
      refine x_ine (tgt := 38) (pc := 29) dX6_puttings_29 (by decide) (by omega) (fun c_29 => ?_) (fun c_29 => ?_)
      · skip
        refine x_iloadn (pc := 38) dX6_puttings_38 rfl ?_
        refine x_ieq (tgt := 50) (pc := 39) dX6_puttings_39 (by decide) (by omega) (fun c_39 => ?_) (fun c_39 => ?_)
        · skip
          refine x_aloadn (pc := 50) dX6_puttings_50 rfl ?_
          refine x_iconst (pc := 51) dX6_puttings_51 ?_
          refine x_cVI (pc := 52) dX6_puttings_52 lk_X6_61 (c_he_head0 hL hM hF hG h hA hn.1) k_174 ⟨by decide, rfl⟩ (hM 174 (by decide) (by decide)) (⟨by decide, by decide⟩) (Nat.le_of_ble_eq_true rfl) rfl ?_
          rintro x G' ⟨rfl, rfl⟩
          refine x_iconst (pc := 55) dX6_puttings_55 ?_
          refine x_cne (tgt := 63) (pc := 56) dX6_puttings_56 (by decide) (by omega) (fun c_56 => ?_) (fun c_56 => ?_)
          · skip
            refine x_iconst (pc := 63) dX6_puttings_63 ?_
            refine x_rI (pc := 64) dX6_puttings_64 rfl ?_
            exact ⟨by unfold zqn; (repeat' split) <;> omega, rfl⟩
          · skip
            refine x_iconst (pc := 59) dX6_puttings_59 ?_
            refine x_goto (tgt := 64) (pc := 60) dX6_puttings_60 (by decide) ?_
            refine x_rI (pc := 64) dX6_puttings_64 rfl ?_
            exact ⟨by unfold zqn; (repeat' split) <;> omega, rfl⟩
        · skip
          refine x_aloadn (pc := 42) dX6_puttings_42 rfl ?_
          refine x_iconst (pc := 43) dX6_puttings_43 ?_
          refine x_cVI (pc := 44) dX6_puttings_44 lk_X6_61 (c_he_head1 hL hM hF hG h hB hn.2) k_174 ⟨by decide, rfl⟩ (hM 174 (by decide) (by decide)) (⟨by decide, by decide⟩) (Nat.le_of_ble_eq_true rfl) rfl ?_
          rintro x G' ⟨rfl, rfl⟩
          refine x_goto (tgt := 55) (pc := 47) dX6_puttings_47 (by decide) ?_
          refine x_iconst (pc := 55) dX6_puttings_55 ?_
          refine x_cne (tgt := 63) (pc := 56) dX6_puttings_56 (by decide) (by omega) (fun c_56 => ?_) (fun c_56 => ?_)
          · skip
            refine x_iconst (pc := 63) dX6_puttings_63 ?_
            refine x_rI (pc := 64) dX6_puttings_64 rfl ?_
            exact ⟨by unfold zqn; (repeat' split) <;> omega, rfl⟩
          · skip
            refine x_iconst (pc := 59) dX6_puttings_59 ?_
            refine x_goto (tgt := 64) (pc := 60) dX6_puttings_60 (by decide) ?_
            refine x_rI (pc := 64) dX6_puttings_64 rfl ?_
            exact ⟨by unfold zqn; (repeat' split) <;> omega, rfl⟩
      · skip
        refine x_iloadn (pc := 32) dX6_puttings_32 rfl ?_
        refine x_ine (tgt := 38) (pc := 33) dX6_puttings_33 (by decide) (by omega) (fun c_33 => ?_) (fun c_33 => ?_)
        · skip
          refine x_iloadn (pc := 38) dX6_puttings_38 rfl ?_
          refine x_ieq (tgt := 50) (pc := 39) dX6_puttings_39 (by decide) (by omega) (fun c_39 => ?_) (fun c_39 => ?_)
          · skip
            refine x_aloadn (pc := 50) dX6_puttings_50 rfl ?_
            refine x_iconst (pc := 51) dX6_puttings_51 ?_
            refine x_cVI (pc := 52) dX6_puttings_52 lk_X6_61 (c_he_head0 hL hM hF hG h hA hn.1) k_174 ⟨by decide, rfl⟩ (hM 174 (by decide) (by decide)) (⟨by decide, by decide⟩) (Nat.le_of_ble_eq_true rfl) rfl ?_
            rintro x G' ⟨rfl, rfl⟩
            refine x_iconst (pc := 55) dX6_puttings_55 ?_
            refine x_cne (tgt := 63) (pc := 56) dX6_puttings_56 (by decide) (by omega) (fun c_56 => ?_) (fun c_56 => ?_)
            · skip
              refine x_iconst (pc := 63) dX6_puttings_63 ?_
              refine x_rI (pc := 64) dX6_puttings_64 rfl ?_
              exact ⟨by unfold zqn; (repeat' split) <;> omega, rfl⟩
            · skip
              refine x_iconst (pc := 59) dX6_puttings_59 ?_
              refine x_goto (tgt := 64) (pc := 60) dX6_puttings_60 (by decide) ?_
              refine x_rI (pc := 64) dX6_puttings_64 rfl ?_
              exact ⟨by unfold zqn; (repeat' split) <;> omega, rfl⟩
          · skip
            refine x_aloadn (pc := 42) dX6_puttings_42 rfl ?_
            refine x_iconst (pc := 43) dX6_puttings_43 ?_
            refine x_cVI (pc := 44) dX6_puttings_44 lk_X6_61 (c_he_head1 hL hM hF hG h hB hn.2) k_174 ⟨by decide, rfl⟩ (hM 174 (by decide) (by decide)) (⟨by decide, by decide⟩) (Nat.le_of_ble_eq_true rfl) rfl ?_
            rintro x G' ⟨rfl, rfl⟩
            refine x_goto (tgt := 55) (pc := 47) dX6_puttings_47 (by decide) ?_
            refine x_iconst (pc := 55) dX6_puttings_55 ?_
            refine x_cne (tgt := 63) (pc := 56) dX6_puttings_56 (by decide) (by omega) (fun c_56 => ?_) (fun c_56 => ?_)
            · skip
              refine x_iconst (pc := 63) dX6_puttings_63 ?_
              refine x_rI (pc := 64) dX6_puttings_64 rfl ?_
              exact ⟨by unfold zqn; (repeat' split) <;> omega, rfl⟩
            · skip
              refine x_iconst (pc := 59) dX6_puttings_59 ?_
              refine x_goto (tgt := 64) (pc := 60) dX6_puttings_60 (by decide) ?_
              refine x_rI (pc := 64) dX6_puttings_64 rfl ?_
              exact ⟨by unfold zqn; (repeat' split) <;> omega, rfl⟩
        · skip
          refine x_iconst (pc := 36) dX6_puttings_36 ?_
          refine x_rI (pc := 37) dX6_puttings_37 rfl ?_
          exact ⟨by unfold zqn; (repeat' split) <;> omega, rfl⟩
    · skip
      refine x_iconst (pc := 26) dX6_puttings_26 ?_
      refine x_rI (pc := 27) dX6_puttings_27 rfl ?_
      exact ⟨by unfold zqn; (repeat' split) <;> omega, rfl⟩
theorem c_he_unknownPut {k : Nat} {G : Nat → Nat → Int} (hL : x_SL L) (hM : x_GM L) (hF : x_Fin xFL G) (hG : x_Fin xGL G) (h : c_he A B 0 G) (hA : zb8 A) (hB : zb8 B) (hn : A.length ≤ 32 ∧ B.length ≤ 32) (hk : k < 4) :
    CM yX6_unknownPut mX6_unknownPut 1 0 0 [vR 174, vI k] L G (qI L fun x G' => x = zpu (zhd A) (zhd B) k ∧ G' = G) := by
  have b1 := zhd_bd hA
  have b2 := zhd_bd hB
  refine Ct.of_X (μ := mX6_unknownPut) rfl rfl (by decide) (fun h => by cases h) (Nat.le_of_ble_eq_true rfl) rfl ?_
  refine x_aloadn (pc := 0) dX6_unknownPut_0 rfl ?_
  refine x_iconst (pc := 1) dX6_unknownPut_1 ?_
  refine x_cVI (pc := 2) dX6_unknownPut_2 lk_X6_61 (c_he_head0 hL hM hF hG h hA hn.1) k_174 ⟨by decide, rfl⟩ (hM 174 (by decide) (by decide)) (⟨by decide, by decide⟩) (Nat.le_of_ble_eq_true rfl) rfl ?_
  rintro x G' ⟨rfl, rfl⟩
  refine x_cSNI (pc := 5) dX6_unknownPut_5 lk_X6_54 (c_ts_isU (by omega)) (⟨by decide, by decide⟩) (Nat.le_of_ble_eq_true rfl) rfl ?_
  rintro x G' ⟨e5, rfl⟩
  have f5 := zisU e5
  refine x_istoren (pc := 8) dX6_unknownPut_8 rfl (by decide) rfl ?_
  refine x_aloadn (pc := 9) dX6_unknownPut_9 rfl ?_
  refine x_iconst (pc := 10) dX6_unknownPut_10 ?_
  refine x_cVI (pc := 11) dX6_unknownPut_11 lk_X6_61 (c_he_head1 hL hM hF hG h hB hn.2) k_174 ⟨by decide, rfl⟩ (hM 174 (by decide) (by decide)) (⟨by decide, by decide⟩) (Nat.le_of_ble_eq_true rfl) rfl ?_
  rintro x G' ⟨rfl, rfl⟩
  refine x_cSNI (pc := 14) dX6_unknownPut_14 lk_X6_54 (c_ts_isU (by omega)) (⟨by decide, by decide⟩) (Nat.le_of_ble_eq_true rfl) rfl ?_
  rintro y G' ⟨e14, rfl⟩
  have f14 := zisU e14
  refine x_istoren (pc := 17) dX6_unknownPut_17 rfl (by decide) rfl ?_
  refine x_iloadn (pc := 18) dX6_unknownPut_18 rfl ?_
  refine x_ieq (tgt := 49) (pc := 19) dX6_unknownPut_19 (by decide) (by omega) (fun c_19 => ?_) (fun c_19 => ?_)
  · skip
    refine x_iloadn (pc := 49) dX6_unknownPut_49 rfl ?_
    refine x_ieq (tgt := 61) (pc := 50) dX6_unknownPut_50 (by decide) (by omega) (fun c_50 => ?_) (fun c_50 => ?_)
    · skip
      refine x_aloadn (pc := 61) dX6_unknownPut_61 rfl ?_
      refine x_iconst (pc := 62) dX6_unknownPut_62 ?_
      refine x_cVI (pc := 63) dX6_unknownPut_63 lk_X6_61 (c_he_head1 hL hM hF hG h hB hn.2) k_174 ⟨by decide, rfl⟩ (hM 174 (by decide) (by decide)) (⟨by decide, by decide⟩) (Nat.le_of_ble_eq_true rfl) rfl ?_
      rintro x G' ⟨rfl, rfl⟩
      refine x_rI (pc := 66) dX6_unknownPut_66 rfl ?_
      exact ⟨by unfold zpu; (repeat' split) <;> omega, rfl⟩
    · skip
      refine x_aloadn (pc := 53) dX6_unknownPut_53 rfl ?_
      refine x_iconst (pc := 54) dX6_unknownPut_54 ?_
      refine x_cVI (pc := 55) dX6_unknownPut_55 lk_X6_61 (c_he_head0 hL hM hF hG h hA hn.1) k_174 ⟨by decide, rfl⟩ (hM 174 (by decide) (by decide)) (⟨by decide, by decide⟩) (Nat.le_of_ble_eq_true rfl) rfl ?_
      rintro x G' ⟨rfl, rfl⟩
      refine x_goto (tgt := 66) (pc := 58) dX6_unknownPut_58 (by decide) ?_
      refine x_rI (pc := 66) dX6_unknownPut_66 rfl ?_
      exact ⟨by unfold zpu; (repeat' split) <;> omega, rfl⟩
  · skip
    refine x_iloadn (pc := 22) dX6_unknownPut_22 rfl ?_
    refine x_ieq (tgt := 49) (pc := 23) dX6_unknownPut_23 (by decide) (by omega) (fun c_23 => ?_) (fun c_23 => ?_)
    · skip
      refine x_iloadn (pc := 49) dX6_unknownPut_49 rfl ?_
      refine x_ieq (tgt := 61) (pc := 50) dX6_unknownPut_50 (by decide) (by omega) (fun c_50 => ?_) (fun c_50 => ?_)
      · skip
        refine x_aloadn (pc := 61) dX6_unknownPut_61 rfl ?_
        refine x_iconst (pc := 62) dX6_unknownPut_62 ?_
        refine x_cVI (pc := 63) dX6_unknownPut_63 lk_X6_61 (c_he_head1 hL hM hF hG h hB hn.2) k_174 ⟨by decide, rfl⟩ (hM 174 (by decide) (by decide)) (⟨by decide, by decide⟩) (Nat.le_of_ble_eq_true rfl) rfl ?_
        rintro x G' ⟨rfl, rfl⟩
        refine x_rI (pc := 66) dX6_unknownPut_66 rfl ?_
        exact ⟨by unfold zpu; (repeat' split) <;> omega, rfl⟩
      · skip
        refine x_aloadn (pc := 53) dX6_unknownPut_53 rfl ?_
        refine x_iconst (pc := 54) dX6_unknownPut_54 ?_
        refine x_cVI (pc := 55) dX6_unknownPut_55 lk_X6_61 (c_he_head0 hL hM hF hG h hA hn.1) k_174 ⟨by decide, rfl⟩ (hM 174 (by decide) (by decide)) (⟨by decide, by decide⟩) (Nat.le_of_ble_eq_true rfl) rfl ?_
        rintro x G' ⟨rfl, rfl⟩
        refine x_goto (tgt := 66) (pc := 58) dX6_unknownPut_58 (by decide) ?_
        refine x_rI (pc := 66) dX6_unknownPut_66 rfl ?_
        exact ⟨by unfold zpu; (repeat' split) <;> omega, rfl⟩
    · skip
      refine x_iloadn (pc := 26) dX6_unknownPut_26 rfl ?_
      refine x_ieq (tgt := 35) (pc := 27) dX6_unknownPut_27 (by decide) (by omega) (fun c_27 => ?_) (fun c_27 => ?_)
      · skip
        refine x_aloadn (pc := 35) dX6_unknownPut_35 rfl ?_
        refine x_iconst (pc := 36) dX6_unknownPut_36 ?_
        refine x_cVI (pc := 37) dX6_unknownPut_37 lk_X6_61 (c_he_head0 hL hM hF hG h hA hn.1) k_174 ⟨by decide, rfl⟩ (hM 174 (by decide) (by decide)) (⟨by decide, by decide⟩) (Nat.le_of_ble_eq_true rfl) rfl ?_
        rintro x G' ⟨rfl, rfl⟩
        refine x_goto (tgt := 48) (pc := 40) dX6_unknownPut_40 (by decide) ?_
        refine x_rI (pc := 48) dX6_unknownPut_48 rfl ?_
        exact ⟨by unfold zpu; (repeat' split) <;> omega, rfl⟩
      · skip
        refine x_iloadn (pc := 30) dX6_unknownPut_30 rfl ?_
        refine x_iconst (pc := 31) dX6_unknownPut_31 ?_
        refine x_cne (tgt := 43) (pc := 32) dX6_unknownPut_32 (by decide) (by omega) (fun c_32 => ?_) (fun c_32 => ?_)
        · skip
          refine x_aloadn (pc := 43) dX6_unknownPut_43 rfl ?_
          refine x_iconst (pc := 44) dX6_unknownPut_44 ?_
          refine x_cVI (pc := 45) dX6_unknownPut_45 lk_X6_61 (c_he_head1 hL hM hF hG h hB hn.2) k_174 ⟨by decide, rfl⟩ (hM 174 (by decide) (by decide)) (⟨by decide, by decide⟩) (Nat.le_of_ble_eq_true rfl) rfl ?_
          rintro x G' ⟨rfl, rfl⟩
          refine x_rI (pc := 48) dX6_unknownPut_48 rfl ?_
          exact ⟨by unfold zpu; (repeat' split) <;> omega, rfl⟩
        · skip
          refine x_aloadn (pc := 35) dX6_unknownPut_35 rfl ?_
          refine x_iconst (pc := 36) dX6_unknownPut_36 ?_
          refine x_cVI (pc := 37) dX6_unknownPut_37 lk_X6_61 (c_he_head0 hL hM hF hG h hA hn.1) k_174 ⟨by decide, rfl⟩ (hM 174 (by decide) (by decide)) (⟨by decide, by decide⟩) (Nat.le_of_ble_eq_true rfl) rfl ?_
          rintro x G' ⟨rfl, rfl⟩
          refine x_goto (tgt := 48) (pc := 40) dX6_unknownPut_40 (by decide) ?_
          refine x_rI (pc := 48) dX6_unknownPut_48 rfl ?_
          exact ⟨by unfold zpu; (repeat' split) <;> omega, rfl⟩
theorem c_he_itemPut {k : Nat} {G : Nat → Nat → Int} (hL : x_SL L) (hM : x_GM L) (hF : x_Fin xFL G) (hG : x_Fin xGL G) (h : c_he A B 0 G) (hA : zb8 A) (hB : zb8 B) (hn : A.length ≤ 32 ∧ B.length ≤ 32) (hk : k < 4) :
    CM yX6_itemPut mX6_itemPut 2 0 0 [vR 174, vI k] L G (qI L fun x G' => x = zpi (zhd A) (zhd B) k ∧ G' = G) := by
  have b1 := zhd_bd hA
  have b2 := zhd_bd hB
  have h4 : (zqn (zhd A) (zhd B) = 4 ∧ 3 < zhd A ∧ 3 < zhd B) ∨ (zqn (zhd A) (zhd B) < 4 ∧ ¬ (3 < zhd A ∧ 3 < zhd B)) := by unfold zqn; (repeat' split) <;> omega
  refine Ct.of_X (μ := mX6_itemPut) rfl rfl (by decide) (fun h => by cases h) (Nat.le_of_ble_eq_true rfl) rfl ?_
  refine x_aloadn (pc := 0) dX6_itemPut_0 rfl ?_
  refine x_cVI (pc := 1) dX6_itemPut_1 lk_X6_64 (c_he_puttings hL hM hF hG h hA hB hn) k_174 ⟨by decide, rfl⟩ (hM 174 (by decide) (by decide)) (⟨by decide, by decide⟩) (Nat.le_of_ble_eq_true rfl) rfl ?_
  rintro x G' ⟨rfl, rfl⟩
  refine x_iconst (pc := 4) dX6_itemPut_4 ?_
  refine x_cne (tgt := 36) (pc := 5) dX6_itemPut_5 (by decide) (by omega) (fun c_5 => ?_) (fun c_5 => ?_)
  · skip
    refine x_iloadn (pc := 36) dX6_itemPut_36 rfl ?_
    refine x_ine (tgt := 42) (pc := 37) dX6_itemPut_37 (by decide) (by omega) (fun c_37 => ?_) (fun c_37 => ?_)
    · skip
      refine x_aloadn (pc := 42) dX6_itemPut_42 rfl ?_
      refine x_iconst (pc := 43) dX6_itemPut_43 ?_
      refine x_cVI (pc := 44) dX6_itemPut_44 lk_X6_61 (c_he_head0 hL hM hF hG h hA hn.1) k_174 ⟨by decide, rfl⟩ (hM 174 (by decide) (by decide)) (⟨by decide, by decide⟩) (Nat.le_of_ble_eq_true rfl) rfl ?_
      rintro x G' ⟨rfl, rfl⟩
      refine x_cSNI (pc := 47) dX6_itemPut_47 lk_X6_54 (c_ts_isU (by omega)) (⟨by decide, by decide⟩) (Nat.le_of_ble_eq_true rfl) rfl ?_
      rintro x G' ⟨e47, rfl⟩
      have f47 := zisU e47
      refine x_ieq (tgt := 61) (pc := 50) dX6_itemPut_50 (by decide) (by omega) (fun c_50 => ?_) (fun c_50 => ?_)
      · skip
        refine x_aloadn (pc := 61) dX6_itemPut_61 rfl ?_
        refine x_iconst (pc := 62) dX6_itemPut_62 ?_
        refine x_cVI (pc := 63) dX6_itemPut_63 lk_X6_61 (c_he_head0 hL hM hF hG h hA hn.1) k_174 ⟨by decide, rfl⟩ (hM 174 (by decide) (by decide)) (⟨by decide, by decide⟩) (Nat.le_of_ble_eq_true rfl) rfl ?_
        rintro x G' ⟨rfl, rfl⟩
        refine x_rI (pc := 66) dX6_itemPut_66 rfl ?_
        exact ⟨by unfold zpi; (repeat' split) <;> omega, rfl⟩
      · skip
        refine x_aloadn (pc := 53) dX6_itemPut_53 rfl ?_
        refine x_iconst (pc := 54) dX6_itemPut_54 ?_
        refine x_cVI (pc := 55) dX6_itemPut_55 lk_X6_61 (c_he_head1 hL hM hF hG h hB hn.2) k_174 ⟨by decide, rfl⟩ (hM 174 (by decide) (by decide)) (⟨by decide, by decide⟩) (Nat.le_of_ble_eq_true rfl) rfl ?_
        rintro x G' ⟨rfl, rfl⟩
        refine x_goto (tgt := 66) (pc := 58) dX6_itemPut_58 (by decide) ?_
        refine x_rI (pc := 66) dX6_itemPut_66 rfl ?_
        exact ⟨by unfold zpi; (repeat' split) <;> omega, rfl⟩
    · skip
      refine x_iconst (pc := 40) dX6_itemPut_40 ?_
      refine x_rI (pc := 41) dX6_itemPut_41 rfl ?_
      exact ⟨by unfold zpi; (repeat' split) <;> omega, rfl⟩
  · skip
    refine x_iloadn (pc := 8) dX6_itemPut_8 rfl ?_
    refine x_iconst (pc := 9) dX6_itemPut_9 ?_
    refine x_cge (tgt := 17) (pc := 10) dX6_itemPut_10 (by decide) (by omega) (fun c_10 => ?_) (fun c_10 => ?_)
    · skip
      refine x_iloadn (pc := 17) dX6_itemPut_17 rfl ?_
      refine x_iconst (pc := 18) dX6_itemPut_18 ?_
      refine x_cne (tgt := 30) (pc := 19) dX6_itemPut_19 (by decide) (by omega) (fun c_19 => ?_) (fun c_19 => ?_)
      · skip
        refine x_aloadn (pc := 30) dX6_itemPut_30 rfl ?_
        refine x_iconst (pc := 31) dX6_itemPut_31 ?_
        refine x_cVI (pc := 32) dX6_itemPut_32 lk_X6_61 (c_he_head0 hL hM hF hG h hA hn.1) k_174 ⟨by decide, rfl⟩ (hM 174 (by decide) (by decide)) (⟨by decide, by decide⟩) (Nat.le_of_ble_eq_true rfl) rfl ?_
        rintro x G' ⟨rfl, rfl⟩
        refine x_rI (pc := 35) dX6_itemPut_35 rfl ?_
        exact ⟨by unfold zpi; (repeat' split) <;> omega, rfl⟩
      · skip
        refine x_aloadn (pc := 22) dX6_itemPut_22 rfl ?_
        refine x_iconst (pc := 23) dX6_itemPut_23 ?_
        refine x_cVI (pc := 24) dX6_itemPut_24 lk_X6_61 (c_he_head1 hL hM hF hG h hB hn.2) k_174 ⟨by decide, rfl⟩ (hM 174 (by decide) (by decide)) (⟨by decide, by decide⟩) (Nat.le_of_ble_eq_true rfl) rfl ?_
        rintro x G' ⟨rfl, rfl⟩
        refine x_goto (tgt := 35) (pc := 27) dX6_itemPut_27 (by decide) ?_
        refine x_rI (pc := 35) dX6_itemPut_35 rfl ?_
        exact ⟨by unfold zpi; (repeat' split) <;> omega, rfl⟩
    · skip
      refine x_iconst (pc := 13) dX6_itemPut_13 ?_
      refine x_goto (tgt := 35) (pc := 14) dX6_itemPut_14 (by decide) ?_
      refine x_rI (pc := 35) dX6_itemPut_35 rfl ?_
      exact ⟨by unfold zpi; (repeat' split) <;> omega, rfl⟩
theorem cPr.st {o r0 r1 sz : Nat} {A B : List Nat} {t t' : Nat} {z : Int} {G : Nat → Nat → Int} (h : cPr o r0 r1 sz A B t G) (h0 : o ≠ r0) (h1 : o ≠ r1) (h2 : o ≠ sz) (hz : z = ((t' : Nat) : Int)) : cPr o r0 r1 sz A B t' (x_up G o 2 z) := by
  unfold cPr
  rw [x_up_ne (Ne.symm h0), x_up_ne (Ne.symm h1), x_up_ne (Ne.symm h2)]
  exact ⟨h.1, h.2.1, h.2.2.1, h.2.2.2.1, by rw [x_up_s]; exact hz⟩
theorem l_th_st {G0 : Nat → Nat → Int} (hL : x_SL L) (hM : x_GM L) (hA : zb8 A) (hB : zb8 B) (hn : A.length ≤ 32 ∧ B.length ≤ 32) :
    ∀ (r i : Nat) (G : Nat → Nat → Int), i + r = min A.length B.length → (∀ j, j < i → A.getD j 0 = B.getD j 0) → c_th A B i G → FR [179] G0 G → x_Fin xFL G → x_Fin xGL G →
    X mX6_strike 1 0 0 (qV L fun G' => c_th A B (zcp A B) G' ∧ FR [179] G0 G' ∧ x_Fin xFL G' ∧ x_Fin xGL G') 16 [some (vR 179), some (vI ((min A.length B.length : Nat) : Int))] [] L G 0 0 := by
  intro r
  induction r with
  | zero =>
    intro i G hi he h hQ hF hG
    have st := h.2.2.2.2
    have hz : i = zcp A B := zcp_un (by omega) (by omega) he (by omega)
    refine x_aloadn (pc := 16) dX6_strike_16 rfl ?_
    refine x_getI (pc := 17) dX6_strike_17 fl_X6_20 k_179 (hM 179 (by decide) (by decide)) ?_
    rw [st]
    refine x_iloadn (pc := 20) dX6_strike_20 rfl ?_
    refine x_cge (tgt := 62) (pc := 21) dX6_strike_21 (by decide) (by omega) (fun c_21 => ?_) (fun c_21 => ?_)
    rotate_left
    · skip
      exact absurd c_21 (by omega)
    refine x_rV (pc := 62) dX6_strike_62 rfl ?_
    exact ⟨by rw [← hz]; exact h, hQ, hF, hG⟩
  | succ r ih =>
    intro i G hi he h hQ hF hG
    obtain ⟨s0, s1, a3, a4, st⟩ := id h
    have r0 := a3 i (by omega)
    have r1 := a4 i (by omega)
    have v0 := zb8_at hA (show i < A.length by omega)
    have v1 := zb8_at hB (show i < B.length by omega)
    refine x_aloadn (pc := 16) dX6_strike_16 rfl ?_
    refine x_getI (pc := 17) dX6_strike_17 fl_X6_20 k_179 (hM 179 (by decide) (by decide)) ?_
    rw [st]
    refine x_iloadn (pc := 20) dX6_strike_20 rfl ?_
    refine x_cge (tgt := 62) (pc := 21) dX6_strike_21 (by decide) (by omega) (fun c_21 => ?_) (fun c_21 => ?_)
    · skip
      exact absurd c_21 (by omega)
    refine x_aloadn (pc := 24) dX6_strike_24 rfl ?_
    refine x_getR (180) (pc := 25) dX6_strike_25 fl_X6_13 k_179 (hM 179 (by decide) (by decide)) (f_179_0 hG) ?_
    refine x_iconst (pc := 28) dX6_strike_28 ?_
    refine x_aald (181) 0 (pc := 29) dX6_strike_29 k_180 (by decide) (hM 180 (by decide) (by decide)) (by decide) (f_180_0 hG) ?_
    refine x_aloadn (pc := 30) dX6_strike_30 rfl ?_
    refine x_getI (pc := 31) dX6_strike_31 fl_X6_20 k_179 (hM 179 (by decide) (by decide)) ?_
    rw [st]
    refine x_iald (i) (pc := 34) dX6_strike_34 k_181 (hM 181 (by decide) (by decide)) (⟨by omega, by omega, by decide⟩) ?_
    rw [r0]
    refine x_aloadn (pc := 35) dX6_strike_35 rfl ?_
    refine x_getR (180) (pc := 36) dX6_strike_36 fl_X6_13 k_179 (hM 179 (by decide) (by decide)) (f_179_0 hG) ?_
    refine x_iconst (pc := 39) dX6_strike_39 ?_
    refine x_aald (182) 1 (pc := 40) dX6_strike_40 k_180 (by decide) (hM 180 (by decide) (by decide)) (by decide) (f_180_1 hG) ?_
    refine x_aloadn (pc := 41) dX6_strike_41 rfl ?_
    refine x_getI (pc := 42) dX6_strike_42 fl_X6_20 k_179 (hM 179 (by decide) (by decide)) ?_
    rw [st]
    refine x_iald (i) (pc := 45) dX6_strike_45 k_182 (hM 182 (by decide) (by decide)) (⟨by omega, by omega, by decide⟩) ?_
    rw [r1]
    refine x_cne (tgt := 62) (pc := 46) dX6_strike_46 (by decide) (by omega) (fun c_46 => ?_) (fun c_46 => ?_)
    · skip
      refine x_rV (pc := 62) dX6_strike_62 rfl ?_
      have hz : i = zcp A B := zcp_un (by omega) (by omega) he (Or.inr (Or.inr (by omega)))
      exact ⟨by rw [← hz]; exact h, hQ, hF, hG⟩
    · skip
      refine x_aloadn (pc := 49) dX6_strike_49 rfl ?_
      refine x_dup (pc := 50) dX6_strike_50 (fun h => by cases h) ?_
      refine x_getI (pc := 51) dX6_strike_51 fl_X6_20 k_179 (hM 179 (by decide) (by decide)) ?_
      rw [st]
      refine x_iconst (pc := 54) dX6_strike_54 ?_
      refine x_iadd (pc := 55) dX6_strike_55 ?_
      refine x_putIH (pc := 56) dX6_strike_56 fp_X6_20 k_179 (hM 179 (by decide) (by decide)) hF hG (fun hF hG => ?_)
      refine x_goto (tgt := 16) (pc := 59) dX6_strike_59 (by decide) ?_
      refine ih (i + 1) _ (by omega) (fun j hj => ?_) (h.st (by decide) (by decide) (by decide) rfl) (hQ.up (by decide)) hF hG
      by_cases c : j = i
      · rw [c]; omega
      · exact he j (by omega)
theorem c_th_strike {G : Nat → Nat → Int} (hL : x_SL L) (hM : x_GM L) (hF : x_Fin xFL G) (hG : x_Fin xGL G) (h : c_th A B 0 G) (hA : zb8 A) (hB : zb8 B) (hn : A.length ≤ 32 ∧ B.length ≤ 32) :
    CM yX6_strike mX6_strike 1 0 0 [vR 179] L G (qV L fun G' => c_th A B (zcp A B) G' ∧ FR [179] G G' ∧ x_Fin xFL G' ∧ x_Fin xGL G') := by
  have s0 := h.1
  have s1 := h.2.1
  refine Ct.of_X (μ := mX6_strike) rfl rfl (by decide) (fun h => by cases h) (Nat.le_of_ble_eq_true rfl) rfl ?_
  refine x_aloadn (pc := 0) dX6_strike_0 rfl ?_
  refine x_getR (183) (pc := 1) dX6_strike_1 fl_X6_16 k_179 (hM 179 (by decide) (by decide)) (f_179_1 hG) ?_
  refine x_iconst (pc := 4) dX6_strike_4 ?_
  refine x_iald 0 (pc := 5) dX6_strike_5 k_183 (hM 183 (by decide) (by decide)) (by decide) ?_
  rw [s0]
  refine x_aloadn (pc := 6) dX6_strike_6 rfl ?_
  refine x_getR (183) (pc := 7) dX6_strike_7 fl_X6_16 k_179 (hM 179 (by decide) (by decide)) (f_179_1 hG) ?_
  refine x_iconst (pc := 10) dX6_strike_10 ?_
  refine x_iald 1 (pc := 11) dX6_strike_11 k_183 (hM 183 (by decide) (by decide)) (by decide) ?_
  rw [s1]
  refine x_mmin (pc := 12) dX6_strike_12 lk_X6_48 (by omega) (Nat.le_of_ble_eq_true rfl) (by omega) ?_
  rw [show min ((A.length : Nat) : Int) ((B.length : Nat) : Int) = ((min A.length B.length : Nat) : Int) by omega]
  refine x_istoren (pc := 15) dX6_strike_15 rfl (by decide) rfl ?_
  exact l_th_st hL hM hA hB hn (min A.length B.length) 0 G (by omega) (fun j hj => absurd hj (Nat.not_lt_zero j)) h FR.rf hF hG
theorem zpt_app {u p : Int} : ∀ (A B : List Nat), zpt u p (A ++ B) = zpt u p A ++ zpt u p B
  | [], B => rfl
  | x :: A, B => by
    rw [List.cons_append, zpt, zpt, zpt_app A B]
    split
    · split <;> rfl
    · rfl
theorem zpt_tk {u p : Int} {A : List Nat} {i : Nat} (h : i < A.length) : zpt u p (A.take (i + 1)) = zpt u p (A.take i) ++ (if ((A.getD i 0 : Nat) : Int) = u then (if p = -1 then [] else [p.toNat, A.getD i 0]) else [A.getD i 0]) := by
  rw [ztk_at h, zpt_app]
  congr 1
theorem zpt_cap {u : Nat} {p : Int} {A : List Nat} {i : Nat} (h : A.length + A.count u ≤ 30) (hi : i ≤ A.length) : (zpt u p (A.take i)).length ≤ 30 := by
  have h1 := (List.take_sublist i A).count_le u
  have h2 : (A.take i).length = i := by rw [List.length_take]; omega
  by_cases c : p = -1
  · subst c
    have := zpt_lenN (u := u) (A.take i)
    omega
  · rw [zpt_len c]; omega
section XBC
variable {C : List Nat} {u : Nat} {p : Int}
abbrev pBcm (L : List Nat) (G0 : Nat → Nat → Int) (A B : List Nat) (u : Nat) (p : Int) : x_Q := qV L fun G' => c_th (zpt u p A) (zpt u p B) 0 G' ∧ FR z_thS G0 G' ∧ x_Fin xFL G' ∧ x_Fin xGL G'
theorem l_th_bc0 {Q : x_Q} {G0 : Nat → Nat → Int} (hL : x_SL L) (hM : x_GM L) (h : c_he A B 0 G0) (hA : zb8 A) (hcap : A.length + A.count u ≤ 30) (hu : u < 8) (hp : p = -1 ∨ ∃ P : Nat, p = P ∧ P < 8)
    (cont : ∀ (G : Nat → Nat → Int) (o6 : Option (Nat × Int)), c_th (zpt u p A) [] 0 G → FR z_thS G0 G → x_Fin xFL G → x_Fin xGL G → X mX6_become 1 0 0 Q 84 [some (vR 179), some (vR 174), some (vI u), some (vI p), some (vI 0), some (vI A.length), o6] [] L G 0 0) :
    ∀ (r i : Nat) (G : Nat → Nat → Int) (o6 : Option (Nat × Int)), i + r = A.length → c_th (zpt u p (A.take i)) [] 0 G → FR z_thS G0 G → x_Fin xFL G → x_Fin xGL G →
    X mX6_become 1 0 0 Q 19 [some (vR 179), some (vR 174), some (vI u), some (vI p), some (vI 0), some (vI i), o6] [] L G 0 0 := by
  intro r
  induction r with
  | zero =>
    intro i G o6 hi ht hQ hF hG
    have hi : i = A.length := by omega
    subst hi
    rw [List.take_length] at ht
    have s0 : G 178 0 = ((A.length : Nat) : Int) := (h.FR hQ (by decide) (by decide) (by decide) (by decide)).1
    refine x_iload (pc := 19) dX6_become_19 rfl ?_
    refine x_aloadn (pc := 21) dX6_become_21 rfl ?_
    refine x_getR (178) (pc := 22) dX6_become_22 fl_X6_16 k_174 (hM 174 (by decide) (by decide)) (f_174_1 hG) ?_
    refine x_iload (pc := 25) dX6_become_25 rfl ?_
    refine x_iald (0) (pc := 27) dX6_become_27 k_178 (hM 178 (by decide) (by decide)) (⟨rfl, by decide, by decide⟩) ?_
    rw [s0]
    refine x_cge (tgt := 84) (pc := 28) dX6_become_28 (by decide) (by omega) (fun c_28 => ?_) (fun c_28 => ?_)
    rotate_left
    · skip
      exact absurd c_28 (by omega)
    exact cont _ _ ht hQ hF hG
  | succ r ih =>
    intro i G o6 hi ht hQ hF hG
    obtain ⟨s0, s1, a3, a4, st⟩ := h.FR hQ (by decide) (by decide) (by decide) (by decide)
    have hr := a3 i (by omega)
    have hv := zb8_at hA (show i < A.length by omega)
    have htk := zpt_tk (u := u) (p := p) (show i < A.length by omega)
    have hc1 := zpt_cap (p := p) hcap (show i ≤ A.length by omega)
    have ihx := fun G o6 => ih (i + 1) G o6 (by omega)
    rw [htk] at ihx
    obtain ⟨x, hx⟩ : ∃ x, x = A.getD i 0 := ⟨_, rfl⟩
    rw [← hx] at hr hv ihx
    rcases hp with rfl | ⟨P, rfl, hP⟩
    · skip
      refine x_iload (pc := 19) dX6_become_19 rfl ?_
      refine x_aloadn (pc := 21) dX6_become_21 rfl ?_
      refine x_getR (178) (pc := 22) dX6_become_22 fl_X6_16 k_174 (hM 174 (by decide) (by decide)) (f_174_1 hG) ?_
      refine x_iload (pc := 25) dX6_become_25 rfl ?_
      refine x_iald (0) (pc := 27) dX6_become_27 k_178 (hM 178 (by decide) (by decide)) (⟨rfl, by decide, by decide⟩) ?_
      rw [s0]
      refine x_cge (tgt := 84) (pc := 28) dX6_become_28 (by decide) (by omega) (fun c_28 => ?_) (fun c_28 => ?_)
      · skip
        exact absurd c_28 (by omega)
      refine x_aloadn (pc := 31) dX6_become_31 rfl ?_
      refine x_getR (175) (pc := 32) dX6_become_32 fl_X6_13 k_174 (hM 174 (by decide) (by decide)) (f_174_0 hG) ?_
      refine x_iload (pc := 35) dX6_become_35 rfl ?_
      refine x_aald (176) (0) (pc := 37) dX6_become_37 k_175 (by decide) (hM 175 (by decide) (by decide)) (⟨rfl, by decide, by decide⟩) (f_175_0 hG) ?_
      refine x_iload (pc := 38) dX6_become_38 rfl ?_
      refine x_iald (i) (pc := 40) dX6_become_40 k_176 (hM 176 (by decide) (by decide)) (⟨by omega, by omega, by decide⟩) ?_
      rw [hr]
      refine x_istore (pc := 41) dX6_become_41 (by decide) rfl ?_
      refine x_iload (pc := 43) dX6_become_43 rfl ?_
      refine x_iloadn (pc := 45) dX6_become_45 rfl ?_
      refine x_cne (tgt := 57) (pc := 46) dX6_become_46 (by decide) (by omega) (fun c_46 => ?_) (fun c_46 => ?_)
      · skip
        refine x_iload (pc := 57) dX6_become_57 rfl ?_
        refine x_iloadn (pc := 59) dX6_become_59 rfl ?_
        refine x_cne (tgt := 70) (pc := 60) dX6_become_60 (by decide) (by omega) (fun c_60 => ?_) (fun c_60 => ?_)
        rotate_left
        · skip
          exact absurd c_60 (by omega)
        refine x_aloadn (pc := 70) dX6_become_70 rfl ?_
        refine x_iload (pc := 71) dX6_become_71 rfl ?_
        refine x_iload (pc := 73) dX6_become_73 rfl ?_
        refine x_cVV (pc := 75) dX6_become_75 lk_X6_44 (c_th_add0 hL hM hF hG ht (by omega)) k_179 ⟨by decide, rfl⟩ (hM 179 (by decide) (by decide)) (⟨by decide, by decide⟩) (Nat.le_of_ble_eq_true rfl) rfl ?_
        rintro G2 ⟨k1, k2, hF, hG⟩
        refine x_iinc (pc := 78) dX6_become_78 rfl (by decide) rfl ?_
        refine x_goto (tgt := 19) (pc := 81) dX6_become_81 (by decide) ?_
        first
        | (rw [if_neg (by omega)] at ihx; exact ihx _ _ k1 (hQ.tr k2) hF hG)
        | (rw [if_pos (by omega), if_pos rfl, List.append_nil] at ihx; exact ihx _ _ ht hQ hF hG)
      · skip
        refine x_iloadn (pc := 49) dX6_become_49 rfl ?_
        refine x_iconst (pc := 50) dX6_become_50 ?_
        refine x_cne (tgt := 57) (pc := 51) dX6_become_51 (by decide) (by omega) (fun c_51 => ?_) (fun c_51 => ?_)
        · skip
          exact absurd rfl c_51
        refine x_goto (tgt := 78) (pc := 54) dX6_become_54 (by decide) ?_
        refine x_iinc (pc := 78) dX6_become_78 rfl (by decide) rfl ?_
        refine x_goto (tgt := 19) (pc := 81) dX6_become_81 (by decide) ?_
        first
        | (rw [if_neg (by omega)] at ihx; exact ihx _ _ k1 (hQ.tr k2) hF hG)
        | (rw [if_pos (by omega), if_pos rfl, List.append_nil] at ihx; exact ihx _ _ ht hQ hF hG)
    · skip
      refine x_iload (pc := 19) dX6_become_19 rfl ?_
      refine x_aloadn (pc := 21) dX6_become_21 rfl ?_
      refine x_getR (178) (pc := 22) dX6_become_22 fl_X6_16 k_174 (hM 174 (by decide) (by decide)) (f_174_1 hG) ?_
      refine x_iload (pc := 25) dX6_become_25 rfl ?_
      refine x_iald (0) (pc := 27) dX6_become_27 k_178 (hM 178 (by decide) (by decide)) (⟨rfl, by decide, by decide⟩) ?_
      rw [s0]
      refine x_cge (tgt := 84) (pc := 28) dX6_become_28 (by decide) (by omega) (fun c_28 => ?_) (fun c_28 => ?_)
      · skip
        exact absurd c_28 (by omega)
      refine x_aloadn (pc := 31) dX6_become_31 rfl ?_
      refine x_getR (175) (pc := 32) dX6_become_32 fl_X6_13 k_174 (hM 174 (by decide) (by decide)) (f_174_0 hG) ?_
      refine x_iload (pc := 35) dX6_become_35 rfl ?_
      refine x_aald (176) (0) (pc := 37) dX6_become_37 k_175 (by decide) (hM 175 (by decide) (by decide)) (⟨rfl, by decide, by decide⟩) (f_175_0 hG) ?_
      refine x_iload (pc := 38) dX6_become_38 rfl ?_
      refine x_iald (i) (pc := 40) dX6_become_40 k_176 (hM 176 (by decide) (by decide)) (⟨by omega, by omega, by decide⟩) ?_
      rw [hr]
      refine x_istore (pc := 41) dX6_become_41 (by decide) rfl ?_
      refine x_iload (pc := 43) dX6_become_43 rfl ?_
      refine x_iloadn (pc := 45) dX6_become_45 rfl ?_
      refine x_cne (tgt := 57) (pc := 46) dX6_become_46 (by decide) (by omega) (fun c_46 => ?_) (fun c_46 => ?_)
      · skip
        refine x_iload (pc := 57) dX6_become_57 rfl ?_
        refine x_iloadn (pc := 59) dX6_become_59 rfl ?_
        refine x_cne (tgt := 70) (pc := 60) dX6_become_60 (by decide) (by omega) (fun c_60 => ?_) (fun c_60 => ?_)
        · skip
          refine x_aloadn (pc := 70) dX6_become_70 rfl ?_
          refine x_iload (pc := 71) dX6_become_71 rfl ?_
          refine x_iload (pc := 73) dX6_become_73 rfl ?_
          refine x_cVV (pc := 75) dX6_become_75 lk_X6_44 (c_th_add0 hL hM hF hG ht (by omega)) k_179 ⟨by decide, rfl⟩ (hM 179 (by decide) (by decide)) (⟨by decide, by decide⟩) (Nat.le_of_ble_eq_true rfl) rfl ?_
          rintro G3 ⟨k3, k4, hF, hG⟩
          refine x_iinc (pc := 78) dX6_become_78 rfl (by decide) rfl ?_
          refine x_goto (tgt := 19) (pc := 81) dX6_become_81 (by decide) ?_
          first
          | (rw [if_pos (by omega), if_neg (by omega), Int.toNat_natCast, List.append_cons _ P] at ihx; exact ihx _ _ k3 ((hQ.tr k2).tr k4) hF hG)
          | (rw [if_neg (by omega)] at ihx; exact ihx _ _ k3 (hQ.tr k4) hF hG)
        · skip
          refine x_aloadn (pc := 63) dX6_become_63 rfl ?_
          refine x_iload (pc := 64) dX6_become_64 rfl ?_
          refine x_iloadn (pc := 66) dX6_become_66 rfl ?_
          refine x_cVV (pc := 67) dX6_become_67 lk_X6_44 (c_th_add0 hL hM hF hG ht (by omega)) k_179 ⟨by decide, rfl⟩ (hM 179 (by decide) (by decide)) (⟨by decide, by decide⟩) (Nat.le_of_ble_eq_true rfl) rfl ?_
          rintro G2 ⟨ht, k2, hF, hG⟩
          have hl2 : (zpt u P (A.take i) ++ [P]).length < 32 := by rw [List.length_append, List.length_singleton]; omega
          refine x_aloadn (pc := 70) dX6_become_70 rfl ?_
          refine x_iload (pc := 71) dX6_become_71 rfl ?_
          refine x_iload (pc := 73) dX6_become_73 rfl ?_
          refine x_cVV (pc := 75) dX6_become_75 lk_X6_44 (c_th_add0 hL hM hF hG ht (by omega)) k_179 ⟨by decide, rfl⟩ (hM 179 (by decide) (by decide)) (⟨by decide, by decide⟩) (Nat.le_of_ble_eq_true rfl) rfl ?_
          rintro G3 ⟨k3, k4, hF, hG⟩
          refine x_iinc (pc := 78) dX6_become_78 rfl (by decide) rfl ?_
          refine x_goto (tgt := 19) (pc := 81) dX6_become_81 (by decide) ?_
          first
          | (rw [if_pos (by omega), if_neg (by omega), Int.toNat_natCast, List.append_cons _ P] at ihx; exact ihx _ _ k3 ((hQ.tr k2).tr k4) hF hG)
          | (rw [if_neg (by omega)] at ihx; exact ihx _ _ k3 (hQ.tr k4) hF hG)
      · skip
        refine x_iloadn (pc := 49) dX6_become_49 rfl ?_
        refine x_iconst (pc := 50) dX6_become_50 ?_
        refine x_cne (tgt := 57) (pc := 51) dX6_become_51 (by decide) (by omega) (fun c_51 => ?_) (fun c_51 => ?_)
        rotate_left
        · skip
          exact absurd c_51 (by omega)
        refine x_iload (pc := 57) dX6_become_57 rfl ?_
        refine x_iloadn (pc := 59) dX6_become_59 rfl ?_
        refine x_cne (tgt := 70) (pc := 60) dX6_become_60 (by decide) (by omega) (fun c_60 => ?_) (fun c_60 => ?_)
        · skip
          refine x_aloadn (pc := 70) dX6_become_70 rfl ?_
          refine x_iload (pc := 71) dX6_become_71 rfl ?_
          refine x_iload (pc := 73) dX6_become_73 rfl ?_
          refine x_cVV (pc := 75) dX6_become_75 lk_X6_44 (c_th_add0 hL hM hF hG ht (by omega)) k_179 ⟨by decide, rfl⟩ (hM 179 (by decide) (by decide)) (⟨by decide, by decide⟩) (Nat.le_of_ble_eq_true rfl) rfl ?_
          rintro G3 ⟨k3, k4, hF, hG⟩
          refine x_iinc (pc := 78) dX6_become_78 rfl (by decide) rfl ?_
          refine x_goto (tgt := 19) (pc := 81) dX6_become_81 (by decide) ?_
          first
          | (rw [if_pos (by omega), if_neg (by omega), Int.toNat_natCast, List.append_cons _ P] at ihx; exact ihx _ _ k3 ((hQ.tr k2).tr k4) hF hG)
          | (rw [if_neg (by omega)] at ihx; exact ihx _ _ k3 (hQ.tr k4) hF hG)
        · skip
          refine x_aloadn (pc := 63) dX6_become_63 rfl ?_
          refine x_iload (pc := 64) dX6_become_64 rfl ?_
          refine x_iloadn (pc := 66) dX6_become_66 rfl ?_
          refine x_cVV (pc := 67) dX6_become_67 lk_X6_44 (c_th_add0 hL hM hF hG ht (by omega)) k_179 ⟨by decide, rfl⟩ (hM 179 (by decide) (by decide)) (⟨by decide, by decide⟩) (Nat.le_of_ble_eq_true rfl) rfl ?_
          rintro G2 ⟨ht, k2, hF, hG⟩
          have hl2 : (zpt u P (A.take i) ++ [P]).length < 32 := by rw [List.length_append, List.length_singleton]; omega
          refine x_aloadn (pc := 70) dX6_become_70 rfl ?_
          refine x_iload (pc := 71) dX6_become_71 rfl ?_
          refine x_iload (pc := 73) dX6_become_73 rfl ?_
          refine x_cVV (pc := 75) dX6_become_75 lk_X6_44 (c_th_add0 hL hM hF hG ht (by omega)) k_179 ⟨by decide, rfl⟩ (hM 179 (by decide) (by decide)) (⟨by decide, by decide⟩) (Nat.le_of_ble_eq_true rfl) rfl ?_
          rintro G3 ⟨k3, k4, hF, hG⟩
          refine x_iinc (pc := 78) dX6_become_78 rfl (by decide) rfl ?_
          refine x_goto (tgt := 19) (pc := 81) dX6_become_81 (by decide) ?_
          first
          | (rw [if_pos (by omega), if_neg (by omega), Int.toNat_natCast, List.append_cons _ P] at ihx; exact ihx _ _ k3 ((hQ.tr k2).tr k4) hF hG)
          | (rw [if_neg (by omega)] at ihx; exact ihx _ _ k3 (hQ.tr k4) hF hG)
theorem l_th_bc1 {Q : x_Q} {G0 : Nat → Nat → Int} (hL : x_SL L) (hM : x_GM L) (h : c_he A B 0 G0) (hB : zb8 B) (hcap : B.length + B.count u ≤ 30) (hu : u < 8) (hp : p = -1 ∨ ∃ P : Nat, p = P ∧ P < 8)
    (cont : ∀ (G : Nat → Nat → Int) (o6 : Option (Nat × Int)), c_th C (zpt u p B) 0 G → FR z_thS G0 G → x_Fin xFL G → x_Fin xGL G → X mX6_become 1 0 0 Q 84 [some (vR 179), some (vR 174), some (vI u), some (vI p), some (vI 1), some (vI B.length), o6] [] L G 0 0) :
    ∀ (r i : Nat) (G : Nat → Nat → Int) (o6 : Option (Nat × Int)), i + r = B.length → c_th C (zpt u p (B.take i)) 0 G → FR z_thS G0 G → x_Fin xFL G → x_Fin xGL G →
    X mX6_become 1 0 0 Q 19 [some (vR 179), some (vR 174), some (vI u), some (vI p), some (vI 1), some (vI i), o6] [] L G 0 0 := by
  intro r
  induction r with
  | zero =>
    intro i G o6 hi ht hQ hF hG
    have hi : i = B.length := by omega
    subst hi
    rw [List.take_length] at ht
    have s0 : G 178 1 = ((B.length : Nat) : Int) := (h.FR hQ (by decide) (by decide) (by decide) (by decide)).2.1
    refine x_iload (pc := 19) dX6_become_19 rfl ?_
    refine x_aloadn (pc := 21) dX6_become_21 rfl ?_
    refine x_getR (178) (pc := 22) dX6_become_22 fl_X6_16 k_174 (hM 174 (by decide) (by decide)) (f_174_1 hG) ?_
    refine x_iload (pc := 25) dX6_become_25 rfl ?_
    refine x_iald (1) (pc := 27) dX6_become_27 k_178 (hM 178 (by decide) (by decide)) (⟨rfl, by decide, by decide⟩) ?_
    rw [s0]
    refine x_cge (tgt := 84) (pc := 28) dX6_become_28 (by decide) (by omega) (fun c_28 => ?_) (fun c_28 => ?_)
    rotate_left
    · skip
      exact absurd c_28 (by omega)
    exact cont _ _ ht hQ hF hG
  | succ r ih =>
    intro i G o6 hi ht hQ hF hG
    obtain ⟨s0, s1, a3, a4, st⟩ := h.FR hQ (by decide) (by decide) (by decide) (by decide)
    have hr := a4 i (by omega)
    have hv := zb8_at hB (show i < B.length by omega)
    have htk := zpt_tk (u := u) (p := p) (show i < B.length by omega)
    have hc1 := zpt_cap (p := p) hcap (show i ≤ B.length by omega)
    have ihx := fun G o6 => ih (i + 1) G o6 (by omega)
    rw [htk] at ihx
    obtain ⟨x, hx⟩ : ∃ x, x = B.getD i 0 := ⟨_, rfl⟩
    rw [← hx] at hr hv ihx
    rcases hp with rfl | ⟨P, rfl, hP⟩
    · skip
      refine x_iload (pc := 19) dX6_become_19 rfl ?_
      refine x_aloadn (pc := 21) dX6_become_21 rfl ?_
      refine x_getR (178) (pc := 22) dX6_become_22 fl_X6_16 k_174 (hM 174 (by decide) (by decide)) (f_174_1 hG) ?_
      refine x_iload (pc := 25) dX6_become_25 rfl ?_
      refine x_iald (1) (pc := 27) dX6_become_27 k_178 (hM 178 (by decide) (by decide)) (⟨rfl, by decide, by decide⟩) ?_
      rw [s1]
      refine x_cge (tgt := 84) (pc := 28) dX6_become_28 (by decide) (by omega) (fun c_28 => ?_) (fun c_28 => ?_)
      · skip
        exact absurd c_28 (by omega)
      refine x_aloadn (pc := 31) dX6_become_31 rfl ?_
      refine x_getR (175) (pc := 32) dX6_become_32 fl_X6_13 k_174 (hM 174 (by decide) (by decide)) (f_174_0 hG) ?_
      refine x_iload (pc := 35) dX6_become_35 rfl ?_
      refine x_aald (177) (1) (pc := 37) dX6_become_37 k_175 (by decide) (hM 175 (by decide) (by decide)) (⟨rfl, by decide, by decide⟩) (f_175_1 hG) ?_
      refine x_iload (pc := 38) dX6_become_38 rfl ?_
      refine x_iald (i) (pc := 40) dX6_become_40 k_177 (hM 177 (by decide) (by decide)) (⟨by omega, by omega, by decide⟩) ?_
      rw [hr]
      refine x_istore (pc := 41) dX6_become_41 (by decide) rfl ?_
      refine x_iload (pc := 43) dX6_become_43 rfl ?_
      refine x_iloadn (pc := 45) dX6_become_45 rfl ?_
      refine x_cne (tgt := 57) (pc := 46) dX6_become_46 (by decide) (by omega) (fun c_46 => ?_) (fun c_46 => ?_)
      · skip
        refine x_iload (pc := 57) dX6_become_57 rfl ?_
        refine x_iloadn (pc := 59) dX6_become_59 rfl ?_
        refine x_cne (tgt := 70) (pc := 60) dX6_become_60 (by decide) (by omega) (fun c_60 => ?_) (fun c_60 => ?_)
        rotate_left
        · skip
          exact absurd c_60 (by omega)
        refine x_aloadn (pc := 70) dX6_become_70 rfl ?_
        refine x_iload (pc := 71) dX6_become_71 rfl ?_
        refine x_iload (pc := 73) dX6_become_73 rfl ?_
        refine x_cVV (pc := 75) dX6_become_75 lk_X6_44 (c_th_add1 hL hM hF hG ht (by omega)) k_179 ⟨by decide, rfl⟩ (hM 179 (by decide) (by decide)) (⟨by decide, by decide⟩) (Nat.le_of_ble_eq_true rfl) rfl ?_
        rintro G2 ⟨k1, k2, hF, hG⟩
        refine x_iinc (pc := 78) dX6_become_78 rfl (by decide) rfl ?_
        refine x_goto (tgt := 19) (pc := 81) dX6_become_81 (by decide) ?_
        first
        | (rw [if_neg (by omega)] at ihx; exact ihx _ _ k1 (hQ.tr k2) hF hG)
        | (rw [if_pos (by omega), if_pos rfl, List.append_nil] at ihx; exact ihx _ _ ht hQ hF hG)
      · skip
        refine x_iloadn (pc := 49) dX6_become_49 rfl ?_
        refine x_iconst (pc := 50) dX6_become_50 ?_
        refine x_cne (tgt := 57) (pc := 51) dX6_become_51 (by decide) (by omega) (fun c_51 => ?_) (fun c_51 => ?_)
        · skip
          exact absurd rfl c_51
        refine x_goto (tgt := 78) (pc := 54) dX6_become_54 (by decide) ?_
        refine x_iinc (pc := 78) dX6_become_78 rfl (by decide) rfl ?_
        refine x_goto (tgt := 19) (pc := 81) dX6_become_81 (by decide) ?_
        first
        | (rw [if_neg (by omega)] at ihx; exact ihx _ _ k1 (hQ.tr k2) hF hG)
        | (rw [if_pos (by omega), if_pos rfl, List.append_nil] at ihx; exact ihx _ _ ht hQ hF hG)
    · skip
      refine x_iload (pc := 19) dX6_become_19 rfl ?_
      refine x_aloadn (pc := 21) dX6_become_21 rfl ?_
      refine x_getR (178) (pc := 22) dX6_become_22 fl_X6_16 k_174 (hM 174 (by decide) (by decide)) (f_174_1 hG) ?_
      refine x_iload (pc := 25) dX6_become_25 rfl ?_
      refine x_iald (1) (pc := 27) dX6_become_27 k_178 (hM 178 (by decide) (by decide)) (⟨rfl, by decide, by decide⟩) ?_
      rw [s1]
      refine x_cge (tgt := 84) (pc := 28) dX6_become_28 (by decide) (by omega) (fun c_28 => ?_) (fun c_28 => ?_)
      · skip
        exact absurd c_28 (by omega)
      refine x_aloadn (pc := 31) dX6_become_31 rfl ?_
      refine x_getR (175) (pc := 32) dX6_become_32 fl_X6_13 k_174 (hM 174 (by decide) (by decide)) (f_174_0 hG) ?_
      refine x_iload (pc := 35) dX6_become_35 rfl ?_
      refine x_aald (177) (1) (pc := 37) dX6_become_37 k_175 (by decide) (hM 175 (by decide) (by decide)) (⟨rfl, by decide, by decide⟩) (f_175_1 hG) ?_
      refine x_iload (pc := 38) dX6_become_38 rfl ?_
      refine x_iald (i) (pc := 40) dX6_become_40 k_177 (hM 177 (by decide) (by decide)) (⟨by omega, by omega, by decide⟩) ?_
      rw [hr]
      refine x_istore (pc := 41) dX6_become_41 (by decide) rfl ?_
      refine x_iload (pc := 43) dX6_become_43 rfl ?_
      refine x_iloadn (pc := 45) dX6_become_45 rfl ?_
      refine x_cne (tgt := 57) (pc := 46) dX6_become_46 (by decide) (by omega) (fun c_46 => ?_) (fun c_46 => ?_)
      · skip
        refine x_iload (pc := 57) dX6_become_57 rfl ?_
        refine x_iloadn (pc := 59) dX6_become_59 rfl ?_
        refine x_cne (tgt := 70) (pc := 60) dX6_become_60 (by decide) (by omega) (fun c_60 => ?_) (fun c_60 => ?_)
        · skip
          refine x_aloadn (pc := 70) dX6_become_70 rfl ?_
          refine x_iload (pc := 71) dX6_become_71 rfl ?_
          refine x_iload (pc := 73) dX6_become_73 rfl ?_
          refine x_cVV (pc := 75) dX6_become_75 lk_X6_44 (c_th_add1 hL hM hF hG ht (by omega)) k_179 ⟨by decide, rfl⟩ (hM 179 (by decide) (by decide)) (⟨by decide, by decide⟩) (Nat.le_of_ble_eq_true rfl) rfl ?_
          rintro G3 ⟨k3, k4, hF, hG⟩
          refine x_iinc (pc := 78) dX6_become_78 rfl (by decide) rfl ?_
          refine x_goto (tgt := 19) (pc := 81) dX6_become_81 (by decide) ?_
          first
          | (rw [if_pos (by omega), if_neg (by omega), Int.toNat_natCast, List.append_cons _ P] at ihx; exact ihx _ _ k3 ((hQ.tr k2).tr k4) hF hG)
          | (rw [if_neg (by omega)] at ihx; exact ihx _ _ k3 (hQ.tr k4) hF hG)
        · skip
          refine x_aloadn (pc := 63) dX6_become_63 rfl ?_
          refine x_iload (pc := 64) dX6_become_64 rfl ?_
          refine x_iloadn (pc := 66) dX6_become_66 rfl ?_
          refine x_cVV (pc := 67) dX6_become_67 lk_X6_44 (c_th_add1 hL hM hF hG ht (by omega)) k_179 ⟨by decide, rfl⟩ (hM 179 (by decide) (by decide)) (⟨by decide, by decide⟩) (Nat.le_of_ble_eq_true rfl) rfl ?_
          rintro G2 ⟨ht, k2, hF, hG⟩
          have hl2 : (zpt u P (B.take i) ++ [P]).length < 32 := by rw [List.length_append, List.length_singleton]; omega
          refine x_aloadn (pc := 70) dX6_become_70 rfl ?_
          refine x_iload (pc := 71) dX6_become_71 rfl ?_
          refine x_iload (pc := 73) dX6_become_73 rfl ?_
          refine x_cVV (pc := 75) dX6_become_75 lk_X6_44 (c_th_add1 hL hM hF hG ht (by omega)) k_179 ⟨by decide, rfl⟩ (hM 179 (by decide) (by decide)) (⟨by decide, by decide⟩) (Nat.le_of_ble_eq_true rfl) rfl ?_
          rintro G3 ⟨k3, k4, hF, hG⟩
          refine x_iinc (pc := 78) dX6_become_78 rfl (by decide) rfl ?_
          refine x_goto (tgt := 19) (pc := 81) dX6_become_81 (by decide) ?_
          first
          | (rw [if_pos (by omega), if_neg (by omega), Int.toNat_natCast, List.append_cons _ P] at ihx; exact ihx _ _ k3 ((hQ.tr k2).tr k4) hF hG)
          | (rw [if_neg (by omega)] at ihx; exact ihx _ _ k3 (hQ.tr k4) hF hG)
      · skip
        refine x_iloadn (pc := 49) dX6_become_49 rfl ?_
        refine x_iconst (pc := 50) dX6_become_50 ?_
        refine x_cne (tgt := 57) (pc := 51) dX6_become_51 (by decide) (by omega) (fun c_51 => ?_) (fun c_51 => ?_)
        rotate_left
        · skip
          exact absurd c_51 (by omega)
        refine x_iload (pc := 57) dX6_become_57 rfl ?_
        refine x_iloadn (pc := 59) dX6_become_59 rfl ?_
        refine x_cne (tgt := 70) (pc := 60) dX6_become_60 (by decide) (by omega) (fun c_60 => ?_) (fun c_60 => ?_)
        · skip
          refine x_aloadn (pc := 70) dX6_become_70 rfl ?_
          refine x_iload (pc := 71) dX6_become_71 rfl ?_
          refine x_iload (pc := 73) dX6_become_73 rfl ?_
          refine x_cVV (pc := 75) dX6_become_75 lk_X6_44 (c_th_add1 hL hM hF hG ht (by omega)) k_179 ⟨by decide, rfl⟩ (hM 179 (by decide) (by decide)) (⟨by decide, by decide⟩) (Nat.le_of_ble_eq_true rfl) rfl ?_
          rintro G3 ⟨k3, k4, hF, hG⟩
          refine x_iinc (pc := 78) dX6_become_78 rfl (by decide) rfl ?_
          refine x_goto (tgt := 19) (pc := 81) dX6_become_81 (by decide) ?_
          first
          | (rw [if_pos (by omega), if_neg (by omega), Int.toNat_natCast, List.append_cons _ P] at ihx; exact ihx _ _ k3 ((hQ.tr k2).tr k4) hF hG)
          | (rw [if_neg (by omega)] at ihx; exact ihx _ _ k3 (hQ.tr k4) hF hG)
        · skip
          refine x_aloadn (pc := 63) dX6_become_63 rfl ?_
          refine x_iload (pc := 64) dX6_become_64 rfl ?_
          refine x_iloadn (pc := 66) dX6_become_66 rfl ?_
          refine x_cVV (pc := 67) dX6_become_67 lk_X6_44 (c_th_add1 hL hM hF hG ht (by omega)) k_179 ⟨by decide, rfl⟩ (hM 179 (by decide) (by decide)) (⟨by decide, by decide⟩) (Nat.le_of_ble_eq_true rfl) rfl ?_
          rintro G2 ⟨ht, k2, hF, hG⟩
          have hl2 : (zpt u P (B.take i) ++ [P]).length < 32 := by rw [List.length_append, List.length_singleton]; omega
          refine x_aloadn (pc := 70) dX6_become_70 rfl ?_
          refine x_iload (pc := 71) dX6_become_71 rfl ?_
          refine x_iload (pc := 73) dX6_become_73 rfl ?_
          refine x_cVV (pc := 75) dX6_become_75 lk_X6_44 (c_th_add1 hL hM hF hG ht (by omega)) k_179 ⟨by decide, rfl⟩ (hM 179 (by decide) (by decide)) (⟨by decide, by decide⟩) (Nat.le_of_ble_eq_true rfl) rfl ?_
          rintro G3 ⟨k3, k4, hF, hG⟩
          refine x_iinc (pc := 78) dX6_become_78 rfl (by decide) rfl ?_
          refine x_goto (tgt := 19) (pc := 81) dX6_become_81 (by decide) ?_
          first
          | (rw [if_pos (by omega), if_neg (by omega), Int.toNat_natCast, List.append_cons _ P] at ihx; exact ihx _ _ k3 ((hQ.tr k2).tr k4) hF hG)
          | (rw [if_neg (by omega)] at ihx; exact ihx _ _ k3 (hQ.tr k4) hF hG)
theorem l_th_bcE {G0 G : Nat → Nat → Int} {o5 o6 : Option (Nat × Int)} (ht : c_th (zpt u p A) (zpt u p B) 0 G) (hQ : FR z_thS G0 G) (hF : x_Fin xFL G) (hG : x_Fin xGL G) :
    X mX6_become 1 0 0 (pBcm L G0 A B u p) 84 [some (vR 179), some (vR 174), some (vI u), some (vI p), some (vI 1), o5, o6] [] L G 0 0 := by
  refine x_iinc (pc := 84) dX6_become_84 rfl (by decide) rfl ?_
  refine x_goto (tgt := 7) (pc := 87) dX6_become_87 (by decide) ?_
  refine x_iload (pc := 7) dX6_become_7 rfl ?_
  refine x_iconst (pc := 9) dX6_become_9 ?_
  refine x_cge (tgt := 90) (pc := 10) dX6_become_10 (by decide) (by omega) (fun c_10 => ?_) (fun c_10 => ?_)
  rotate_left
  · skip
    exact absurd c_10 (by decide)
  refine x_rV (pc := 90) dX6_become_90 rfl ?_
  exact ⟨ht, hQ, hF, hG⟩
theorem l_th_bcM {G0 G : Nat → Nat → Int} {o5 o6 : Option (Nat × Int)} (hL : x_SL L) (hM : x_GM L) (h : c_he A B 0 G0) (hB : zb8 B) (hcap : B.length + B.count u ≤ 30) (hu : u < 8) (hp : p = -1 ∨ ∃ P : Nat, p = P ∧ P < 8) (ht : c_th (zpt u p A) [] 0 G) (hQ : FR z_thS G0 G) (hF : x_Fin xFL G) (hG : x_Fin xGL G) :
    X mX6_become 1 0 0 (pBcm L G0 A B u p) 84 [some (vR 179), some (vR 174), some (vI u), some (vI p), some (vI 0), o5, o6] [] L G 0 0 := by
  have st := (h.FR hQ (by decide) (by decide) (by decide) (by decide)).2.2.2.2
  refine x_iinc (pc := 84) dX6_become_84 rfl (by decide) rfl ?_
  refine x_goto (tgt := 7) (pc := 87) dX6_become_87 (by decide) ?_
  refine x_iload (pc := 7) dX6_become_7 rfl ?_
  refine x_iconst (pc := 9) dX6_become_9 ?_
  refine x_cge (tgt := 90) (pc := 10) dX6_become_10 (by decide) (by omega) (fun c_10 => ?_) (fun c_10 => ?_)
  · skip
    exact absurd c_10 (by decide)
  refine x_aloadn (pc := 13) dX6_become_13 rfl ?_
  refine x_getI (pc := 14) dX6_become_14 fl_X6_20 k_174 (hM 174 (by decide) (by decide)) ?_
  rw [st]
  refine x_istore (pc := 17) dX6_become_17 (by decide) rfl ?_
  exact l_th_bc1 hL hM h hB hcap hu hp (fun _ _ b1 b2 b3 b4 => l_th_bcE b1 b2 b3 b4) B.length 0 G _ (by omega) ht hQ hF hG
theorem c_th_become {G : Nat → Nat → Int} (hL : x_SL L) (hM : x_GM L) (hF : x_Fin xFL G) (hG : x_Fin xGL G) (h : c_he A B 0 G) (hA : zb8 A) (hB : zb8 B) (hc1 : A.length + A.count u ≤ 30) (hc2 : B.length + B.count u ≤ 30) (hu : u < 8) (hp : p = -1 ∨ ∃ P : Nat, p = P ∧ P < 8) :
    CM yX6_become mX6_become 1 0 0 [vR 179, vR 174, vI u, vI p] L G (pBcm L G A B u p) := by
  refine Ct.of_X (μ := mX6_become) rfl rfl (by decide) (fun h => by cases h) (Nat.le_of_ble_eq_true rfl) rfl ?_
  refine x_aloadn (pc := 0) dX6_become_0 rfl ?_
  refine x_cVV (pc := 1) dX6_become_1 lk_X6_31 (c_th_begin hL hM hF hG) k_179 ⟨by decide, rfl⟩ (hM 179 (by decide) (by decide)) (⟨by decide, by decide⟩) (Nat.le_of_ble_eq_true rfl) rfl ?_
  rintro G1 ⟨k1, k2, hF, hG⟩
  have st := (h.FR k2 (by decide) (by decide) (by decide) (by decide)).2.2.2.2
  refine x_iconst (pc := 4) dX6_become_4 ?_
  refine x_istore (pc := 5) dX6_become_5 (by decide) rfl ?_
  refine x_iload (pc := 7) dX6_become_7 rfl ?_
  refine x_iconst (pc := 9) dX6_become_9 ?_
  refine x_cge (tgt := 90) (pc := 10) dX6_become_10 (by decide) (by omega) (fun c_10 => ?_) (fun c_10 => ?_)
  · skip
    exact absurd c_10 (by decide)
  refine x_aloadn (pc := 13) dX6_become_13 rfl ?_
  refine x_getI (pc := 14) dX6_become_14 fl_X6_20 k_174 (hM 174 (by decide) (by decide)) ?_
  rw [st]
  refine x_istore (pc := 17) dX6_become_17 (by decide) rfl ?_
  exact l_th_bc0 hL hM h hA hc1 hu hp (fun _ _ b1 b2 b3 b4 => l_th_bcM hL hM h hB hc2 hu hp b1 b2 b3 b4) A.length 0 G1 _ (by omega) k1 k2 hF hG
end XBC
end XPD

