/-! the class's words: turns, falling parts, agreeing -/
theorem ztl_eq {f : Nat → Nat} {n k i : Nat} (hk : k < n) (hi : i < n) : ztl f n k i = if k + i < n then f (k + i) else f (k + i - n) := by
  unfold ztl
  by_cases c : k + i < n
  · rw [if_pos c, Nat.mod_eq_of_lt c]
  · rw [if_neg c, Nat.mod_eq_sub_mod (by omega), Nat.mod_eq_of_lt (by omega)]
theorem c_Wd_tl {r n k i : Nat} {f : Nat → Nat} {L : List Nat} {G : Nat → Nat → Int} (h : xWd r) (hL : x_SL L) (hF : x_Fin xFL G) (hW : cWd r n f G) (hk : k < n) (hi : i < n) :
    CM yX10_turnedLetter mX10_turnedLetter 0 0 0 [vR r, vI k, vI i] L G (qI L fun x G' => x = ztl f n k i ∧ G' = G) := by
  obtain ⟨w1, w2, w3⟩ := hW
  refine Ct.of_X (μ := mX10_turnedLetter) rfl rfl (by decide) (fun h => by cases h) (Nat.le_of_ble_eq_true rfl) rfl ?_
  by_cases c : k + i < n
  · have a1 := w3 (k + i) c
    refine x_iloadn (pc := 0) dX10_turnedLetter_0 rfl ?_
    refine x_iloadn (pc := 1) dX10_turnedLetter_1 rfl ?_
    refine x_iadd (pc := 2) dX10_turnedLetter_2 ?_
    refine x_aloadn (pc := 3) dX10_turnedLetter_3 rfl ?_
    refine x_getI (pc := 4) dX10_turnedLetter_4 fl_X10_15 (wd_k h).1 (wd_m h hL 0 (by decide)) ?_
    refine x_cge (tgt := 16) (pc := 7) dX10_turnedLetter_7 (by decide) (by omega) (fun c_7 => ?_) (fun c_7 => ?_)
    · skip
      exact absurd c_7 (by omega)
    refine x_iloadn (pc := 10) dX10_turnedLetter_10 rfl ?_
    refine x_iloadn (pc := 11) dX10_turnedLetter_11 rfl ?_
    refine x_iadd (pc := 12) dX10_turnedLetter_12 ?_
    refine x_goto (tgt := 24) (pc := 13) dX10_turnedLetter_13 (by decide) ?_
    refine x_istoren (pc := 24) dX10_turnedLetter_24 rfl (by decide) rfl ?_
    refine x_iloadn (pc := 25) dX10_turnedLetter_25 rfl ?_
    refine x_ilt (tgt := 46) (pc := 26) dX10_turnedLetter_26 (by decide) (by omega) (fun c_26 => ?_) (fun c_26 => ?_)
    · skip
      exact absurd c_26 (by omega)
    refine x_iloadn (pc := 29) dX10_turnedLetter_29 rfl ?_
    refine x_aloadn (pc := 30) dX10_turnedLetter_30 rfl ?_
    refine x_getI (pc := 31) dX10_turnedLetter_31 fl_X10_15 (wd_k h).1 (wd_m h hL 0 (by decide)) ?_
    refine x_cge (tgt := 46) (pc := 34) dX10_turnedLetter_34 (by decide) (by omega) (fun c_34 => ?_) (fun c_34 => ?_)
    · skip
      exact absurd c_34 (by omega)
    refine x_aloadn (pc := 37) dX10_turnedLetter_37 rfl ?_
    refine x_getR (r + 1) (pc := 38) dX10_turnedLetter_38 fl_X10_11 (wd_k h).1 (wd_m h hL 0 (by decide)) (wd_f0 h hF) ?_
    refine x_iloadn (pc := 41) dX10_turnedLetter_41 rfl ?_
    refine x_iald (k + i) (pc := 42) dX10_turnedLetter_42 (wd_k h).2 (wd_m h hL 1 (by decide)) (⟨by omega, by omega, by decide⟩) ?_
    refine x_goto (tgt := 47) (pc := 43) dX10_turnedLetter_43 (by decide) ?_
    refine x_rI (pc := 47) dX10_turnedLetter_47 rfl ?_
    exact ⟨by rw [ztl_eq hk hi, if_pos c]; exact a1.1, rfl⟩
  · have a1 := w3 (k + i - n) (by omega)
    refine x_iloadn (pc := 0) dX10_turnedLetter_0 rfl ?_
    refine x_iloadn (pc := 1) dX10_turnedLetter_1 rfl ?_
    refine x_iadd (pc := 2) dX10_turnedLetter_2 ?_
    refine x_aloadn (pc := 3) dX10_turnedLetter_3 rfl ?_
    refine x_getI (pc := 4) dX10_turnedLetter_4 fl_X10_15 (wd_k h).1 (wd_m h hL 0 (by decide)) ?_
    refine x_cge (tgt := 16) (pc := 7) dX10_turnedLetter_7 (by decide) (by omega) (fun c_7 => ?_) (fun c_7 => ?_)
    rotate_left
    · skip
      exact absurd c_7 (by omega)
    refine x_iloadn (pc := 16) dX10_turnedLetter_16 rfl ?_
    refine x_iloadn (pc := 17) dX10_turnedLetter_17 rfl ?_
    refine x_iadd (pc := 18) dX10_turnedLetter_18 ?_
    refine x_aloadn (pc := 19) dX10_turnedLetter_19 rfl ?_
    refine x_getI (pc := 20) dX10_turnedLetter_20 fl_X10_15 (wd_k h).1 (wd_m h hL 0 (by decide)) ?_
    refine x_isub (pc := 23) dX10_turnedLetter_23 ?_
    refine x_istoren (pc := 24) dX10_turnedLetter_24 rfl (by decide) rfl ?_
    refine x_iloadn (pc := 25) dX10_turnedLetter_25 rfl ?_
    refine x_ilt (tgt := 46) (pc := 26) dX10_turnedLetter_26 (by decide) (by omega) (fun c_26 => ?_) (fun c_26 => ?_)
    · skip
      exact absurd c_26 (by omega)
    refine x_iloadn (pc := 29) dX10_turnedLetter_29 rfl ?_
    refine x_aloadn (pc := 30) dX10_turnedLetter_30 rfl ?_
    refine x_getI (pc := 31) dX10_turnedLetter_31 fl_X10_15 (wd_k h).1 (wd_m h hL 0 (by decide)) ?_
    refine x_cge (tgt := 46) (pc := 34) dX10_turnedLetter_34 (by decide) (by omega) (fun c_34 => ?_) (fun c_34 => ?_)
    · skip
      exact absurd c_34 (by omega)
    refine x_aloadn (pc := 37) dX10_turnedLetter_37 rfl ?_
    refine x_getR (r + 1) (pc := 38) dX10_turnedLetter_38 fl_X10_11 (wd_k h).1 (wd_m h hL 0 (by decide)) (wd_f0 h hF) ?_
    refine x_iloadn (pc := 41) dX10_turnedLetter_41 rfl ?_
    refine x_iald (k + i - n) (pc := 42) dX10_turnedLetter_42 (wd_k h).2 (wd_m h hL 1 (by decide)) (⟨by omega, by omega, by decide⟩) ?_
    refine x_goto (tgt := 47) (pc := 43) dX10_turnedLetter_43 (by decide) ?_
    refine x_rI (pc := 47) dX10_turnedLetter_47 rfl ?_
    exact ⟨by rw [ztl_eq hk hi, if_neg c]; exact a1.1, rfl⟩
theorem ztl_lt {f : Nat → Nat} {n k i : Nat} (hn : 0 < n) (hf : ∀ j, j < n → f j < 3) : ztl f n k i < 3 := hf _ (Nat.mod_lt _ hn)
theorem l_Wd_ta {r n a b : Nat} {f : Nat → Nat} {L : List Nat} {G : Nat → Nat → Int} (h : xWd r) (hL : x_SL L) (hF : x_Fin xFL G) (hW : cWd r n f G) (ha : a < n) (hb : b < n) :
    ∀ (k j : Nat) (o : Option (Nat × Int)) (z : Bool), j + k = n → zta f n a b k j = z → X mX10_isTurnAhead 1 0 0 (qI L fun x G' => x = (if z = true then 1 else 0) ∧ G' = G) 2 [some (vR r), some (vI a), some (vI b), some (vI j), o] [] L G 0 0 := by
  obtain ⟨w1, w2, w3⟩ := id hW
  intro k
  induction k with
  | zero =>
    intro j o z hj hz
    refine x_iloadn (pc := 2) dX10_isTurnAhead_2 rfl ?_
    refine x_aloadn (pc := 3) dX10_isTurnAhead_3 rfl ?_
    refine x_getI (pc := 4) dX10_isTurnAhead_4 fl_X10_15 (wd_k h).1 (wd_m h hL 0 (by decide)) ?_
    refine x_cge (tgt := 47) (pc := 7) dX10_isTurnAhead_7 (by decide) (by omega) (fun c_7 => ?_) (fun c_7 => ?_)
    rotate_left
    · skip
      exact absurd c_7 (by omega)
    refine x_iconst (pc := 47) dX10_isTurnAhead_47 ?_
    refine x_rZ (pc := 48) dX10_isTurnAhead_48 rfl (by omega) ?_
    exact ⟨by rw [← hz]; rfl, rfl⟩
  | succ k ih =>
    intro j o z hj hz
    have t1 := ztl_lt (f := f) (n := n) (k := a) (i := j) (by omega) (fun j hj => (w3 j hj).2)
    have t2 := ztl_lt (f := f) (n := n) (k := b) (i := j) (by omega) (fun j hj => (w3 j hj).2)
    rw [zta] at hz
    refine x_iloadn (pc := 2) dX10_isTurnAhead_2 rfl ?_
    refine x_aloadn (pc := 3) dX10_isTurnAhead_3 rfl ?_
    refine x_getI (pc := 4) dX10_isTurnAhead_4 fl_X10_15 (wd_k h).1 (wd_m h hL 0 (by decide)) ?_
    refine x_cge (tgt := 47) (pc := 7) dX10_isTurnAhead_7 (by decide) (by omega) (fun c_7 => ?_) (fun c_7 => ?_)
    · skip
      exact absurd c_7 (by omega)
    refine x_aloadn (pc := 10) dX10_isTurnAhead_10 rfl ?_
    refine x_iloadn (pc := 11) dX10_isTurnAhead_11 rfl ?_
    refine x_iloadn (pc := 12) dX10_isTurnAhead_12 rfl ?_
    refine x_cVI (pc := 13) dX10_isTurnAhead_13 lk_X10_40 (c_Wd_tl h hL hF hW ha (by omega)) (wd_k h).1 ⟨by decide, rfl⟩ (wd_m h hL 0 (by decide)) (⟨by decide, by decide⟩) (Nat.le_of_ble_eq_true rfl) rfl ?_
    rintro x G' ⟨rfl, rfl⟩
    refine x_aloadn (pc := 16) dX10_isTurnAhead_16 rfl ?_
    refine x_iloadn (pc := 17) dX10_isTurnAhead_17 rfl ?_
    refine x_iloadn (pc := 18) dX10_isTurnAhead_18 rfl ?_
    refine x_cVI (pc := 19) dX10_isTurnAhead_19 lk_X10_40 (c_Wd_tl h hL hF hW hb (by omega)) (wd_k h).1 ⟨by decide, rfl⟩ (wd_m h hL 0 (by decide)) (⟨by decide, by decide⟩) (Nat.le_of_ble_eq_true rfl) rfl ?_
    rintro x G' ⟨rfl, rfl⟩
    refine x_isub (pc := 22) dX10_isTurnAhead_22 ?_
    refine x_istore (pc := 23) dX10_isTurnAhead_23 (by decide) rfl ?_
    refine x_iload (pc := 25) dX10_isTurnAhead_25 rfl ?_
    refine x_ieq (tgt := 41) (pc := 27) dX10_isTurnAhead_27 (by decide) (by omega) (fun c_27 => ?_) (fun c_27 => ?_)
    · skip
      refine x_iinc (pc := 41) dX10_isTurnAhead_41 rfl (by decide) rfl ?_
      refine x_goto (tgt := 2) (pc := 44) dX10_isTurnAhead_44 (by decide) ?_
      exact ih (j + 1) _ z (by omega) (by rw [if_pos (by omega)] at hz; exact hz)
    · skip
      refine x_iload (pc := 30) dX10_isTurnAhead_30 rfl ?_
      refine x_ige (tgt := 39) (pc := 32) dX10_isTurnAhead_32 (by decide) (by omega) (fun c_32 => ?_) (fun c_32 => ?_)
      · skip
        refine x_iconst (pc := 39) dX10_isTurnAhead_39 ?_
        refine x_rZ (pc := 40) dX10_isTurnAhead_40 rfl (by omega) ?_
        refine ⟨?_, rfl⟩
        rw [if_neg (by omega)] at hz
        first | (rw [decide_eq_true (by omega)] at hz; rw [← hz]; rfl) | (rw [decide_eq_false (by omega)] at hz; rw [← hz]; rfl)
      · skip
        refine x_iconst (pc := 35) dX10_isTurnAhead_35 ?_
        refine x_goto (tgt := 40) (pc := 36) dX10_isTurnAhead_36 (by decide) ?_
        refine x_rZ (pc := 40) dX10_isTurnAhead_40 rfl (by omega) ?_
        refine ⟨?_, rfl⟩
        rw [if_neg (by omega)] at hz
        first | (rw [decide_eq_true (by omega)] at hz; rw [← hz]; rfl) | (rw [decide_eq_false (by omega)] at hz; rw [← hz]; rfl)
theorem c_Wd_ta {r n a b : Nat} {f : Nat → Nat} {L : List Nat} {G : Nat → Nat → Int} (h : xWd r) (hL : x_SL L) (hF : x_Fin xFL G) (hW : cWd r n f G) (ha : a < n) (hb : b < n) :
    CM yX10_isTurnAhead mX10_isTurnAhead 1 0 0 [vR r, vI a, vI b] L G (qI L fun x G' => x = (if zta f n a b n 0 = true then 1 else 0) ∧ G' = G) := by
  refine Ct.of_X (μ := mX10_isTurnAhead) rfl rfl (by decide) (fun h => by cases h) (Nat.le_of_ble_eq_true rfl) rfl ?_
  refine x_iconst (pc := 0) dX10_isTurnAhead_0 ?_
  refine x_istoren (pc := 1) dX10_isTurnAhead_1 rfl (by decide) rfl ?_
  exact l_Wd_ta h hL hF hW ha hb n 0 _ _ (by omega) rfl
theorem l_Wd_lt {r n : Nat} {f : Nat → Nat} {L : List Nat} {G : Nat → Nat → Int} (h : xWd r) (hL : x_SL L) (hF : x_Fin xFL G) (hW : cWd r n f G) :
    ∀ (k i : Nat), i + k = n - 1 → X mX10_leastTurn 2 0 0 (qI L fun x G' => x = zltb f n (n - 1) ∧ G' = G) 4 [some (vR r), some (vI (zltb f n i)), some (vI ((i + 1 : Nat) : Int))] [] L G 0 0 := by
  obtain ⟨w1, w2, w3⟩ := id hW
  intro k
  induction k with
  | zero =>
    intro i hi
    have hi : i = n - 1 := by omega
    subst hi
    refine x_iloadn (pc := 4) dX10_leastTurn_4 rfl ?_
    refine x_aloadn (pc := 5) dX10_leastTurn_5 rfl ?_
    refine x_getI (pc := 6) dX10_leastTurn_6 fl_X10_15 (wd_k h).1 (wd_m h hL 0 (by decide)) ?_
    refine x_cge (tgt := 29) (pc := 9) dX10_leastTurn_9 (by decide) (by omega) (fun c_9 => ?_) (fun c_9 => ?_)
    rotate_left
    · skip
      exact absurd c_9 (by omega)
    refine x_iloadn (pc := 29) dX10_leastTurn_29 rfl ?_
    refine x_rI (pc := 30) dX10_leastTurn_30 rfl ?_
    exact ⟨rfl, rfl⟩
  | succ k ih =>
    intro i hi
    have hb := zltb_le f n i
    have ih2 := ih (i + 1) (by omega)
    rw [zltb] at ih2
    refine x_iloadn (pc := 4) dX10_leastTurn_4 rfl ?_
    refine x_aloadn (pc := 5) dX10_leastTurn_5 rfl ?_
    refine x_getI (pc := 6) dX10_leastTurn_6 fl_X10_15 (wd_k h).1 (wd_m h hL 0 (by decide)) ?_
    refine x_cge (tgt := 29) (pc := 9) dX10_leastTurn_9 (by decide) (by omega) (fun c_9 => ?_) (fun c_9 => ?_)
    · skip
      exact absurd c_9 (by omega)
    refine x_aloadn (pc := 12) dX10_leastTurn_12 rfl ?_
    refine x_iloadn (pc := 13) dX10_leastTurn_13 rfl ?_
    refine x_iloadn (pc := 14) dX10_leastTurn_14 rfl ?_
    refine x_cVI (pc := 15) dX10_leastTurn_15 lk_X10_36 (c_Wd_ta h hL hF hW (a := i + 1) (b := zltb f n i) (by omega) (by omega)) (wd_k h).1 ⟨by decide, rfl⟩ (wd_m h hL 0 (by decide)) (⟨by decide, by decide⟩) (Nat.le_of_ble_eq_true rfl) rfl ?_
    rintro x G' ⟨rfl, rfl⟩
    refine x_ieq (tgt := 23) (pc := 18) dX10_leastTurn_18 (by decide) (by split <;> omega) (fun _ => ?_) (fun _ => ?_)
    · skip
      refine x_iinc (pc := 23) dX10_leastTurn_23 rfl (by decide) rfl ?_
      refine x_goto (tgt := 4) (pc := 26) dX10_leastTurn_26 (by decide) ?_
      rename_i c9
      first | (rw [if_pos (by split at c9; assumption; exact absurd rfl c9)] at ih2; exact ih2) | (rw [if_neg (by split at c9; exact absurd c9 (by decide); assumption)] at ih2; exact ih2)
    · skip
      refine x_iloadn (pc := 21) dX10_leastTurn_21 rfl ?_
      refine x_istoren (pc := 22) dX10_leastTurn_22 rfl (by decide) rfl ?_
      refine x_iinc (pc := 23) dX10_leastTurn_23 rfl (by decide) rfl ?_
      refine x_goto (tgt := 4) (pc := 26) dX10_leastTurn_26 (by decide) ?_
      rename_i c9
      first | (rw [if_pos (by split at c9; assumption; exact absurd rfl c9)] at ih2; exact ih2) | (rw [if_neg (by split at c9; exact absurd c9 (by decide); assumption)] at ih2; exact ih2)
theorem c_Wd_lt {r n : Nat} {f : Nat → Nat} {L : List Nat} {G : Nat → Nat → Int} (h : xWd r) (hL : x_SL L) (hF : x_Fin xFL G) (hW : cWd r n f G) :
    CM yX10_leastTurn mX10_leastTurn 2 0 0 [vR r] L G (qI L fun x G' => x = zltb f n (n - 1) ∧ G' = G) := by
  refine Ct.of_X (μ := mX10_leastTurn) rfl rfl (by decide) (fun h => by cases h) (Nat.le_of_ble_eq_true rfl) rfl ?_
  refine x_iconst (pc := 0) dX10_leastTurn_0 ?_
  refine x_istoren (pc := 1) dX10_leastTurn_1 rfl (by decide) rfl ?_
  refine x_iconst (pc := 2) dX10_leastTurn_2 ?_
  refine x_istoren (pc := 3) dX10_leastTurn_3 rfl (by decide) rfl ?_
  exact l_Wd_lt h hL hF hW (n - 1) 0 (by omega)
/-! falling parts -/
def zdv (f : Nat → Nat) (n fr : Nat) : Nat → Nat → Nat → Nat
  | 0, like, to => to - like
  | k + 1, like, to => if f like ≤ f to then zdv f n fr k (if f like < f to then fr else like + 1) (to + 1) else to - like
theorem l_Wd_fl {r n fr : Nat} {f : Nat → Nat} {L : List Nat} {G : Nat → Nat → Int} (h : xWd r) (hL : x_SL L) (hF : x_Fin xFL G) (hW : cWd r n f G) :
    ∀ (k like to z : Nat), to + k = n → fr ≤ like → like < to → zdv f n fr k like to = z → X mX10_fallingLength 1 0 0 (qI L fun x G' => x = z ∧ G' = G) 6 [some (vR r), some (vI fr), some (vI like), some (vI to)] [] L G 0 0 := by
  obtain ⟨w1, w2, w3⟩ := id hW
  intro k
  induction k with
  | zero =>
    intro like to z ht hf hl hz
    rw [zdv] at hz
    refine x_iloadn (pc := 6) dX10_fallingLength_6 rfl ?_
    refine x_aloadn (pc := 7) dX10_fallingLength_7 rfl ?_
    refine x_getI (pc := 8) dX10_fallingLength_8 fl_X10_15 (wd_k h).1 (wd_m h hL 0 (by decide)) ?_
    refine x_cge (tgt := 58) (pc := 11) dX10_fallingLength_11 (by decide) (by omega) (fun c_11 => ?_) (fun c_11 => ?_)
    rotate_left
    · skip
      exact absurd c_11 (by omega)
    refine x_iconst (pc := 58) dX10_fallingLength_58 ?_
    refine x_iloadn (pc := 59) dX10_fallingLength_59 rfl ?_
    refine x_iloadn (pc := 60) dX10_fallingLength_60 rfl ?_
    refine x_isub (pc := 61) dX10_fallingLength_61 ?_
    refine x_mmax (pc := 62) dX10_fallingLength_62 lk_X10_25 (by omega) (Nat.le_of_ble_eq_true rfl) (by omega) ?_
    refine x_rI (pc := 65) dX10_fallingLength_65 rfl ?_
    exact ⟨by omega, rfl⟩
  | succ k ih =>
    intro like to z ht hf hl hz
    have a1 := w3 like (by omega)
    have a2 := w3 to (by omega)
    rw [zdv] at hz
    refine x_iloadn (pc := 6) dX10_fallingLength_6 rfl ?_
    refine x_aloadn (pc := 7) dX10_fallingLength_7 rfl ?_
    refine x_getI (pc := 8) dX10_fallingLength_8 fl_X10_15 (wd_k h).1 (wd_m h hL 0 (by decide)) ?_
    refine x_cge (tgt := 58) (pc := 11) dX10_fallingLength_11 (by decide) (by omega) (fun c_11 => ?_) (fun c_11 => ?_)
    · skip
      exact absurd c_11 (by omega)
    refine x_aloadn (pc := 14) dX10_fallingLength_14 rfl ?_
    refine x_getR (r + 1) (pc := 15) dX10_fallingLength_15 fl_X10_11 (wd_k h).1 (wd_m h hL 0 (by decide)) (wd_f0 h hF) ?_
    refine x_iloadn (pc := 18) dX10_fallingLength_18 rfl ?_
    refine x_iald (like) (pc := 19) dX10_fallingLength_19 (wd_k h).2 (wd_m h hL 1 (by decide)) (⟨by omega, by omega, by decide⟩) ?_
    refine x_aloadn (pc := 20) dX10_fallingLength_20 rfl ?_
    refine x_getR (r + 1) (pc := 21) dX10_fallingLength_21 fl_X10_11 (wd_k h).1 (wd_m h hL 0 (by decide)) (wd_f0 h hF) ?_
    refine x_iloadn (pc := 24) dX10_fallingLength_24 rfl ?_
    refine x_iald (to) (pc := 25) dX10_fallingLength_25 (wd_k h).2 (wd_m h hL 1 (by decide)) (⟨by omega, by omega, by decide⟩) ?_
    rw [a1.1, a2.1]
    refine x_cgt (tgt := 58) (pc := 26) dX10_fallingLength_26 (by decide) (by omega) (fun c_26 => ?_) (fun c_26 => ?_)
    · skip
      refine x_iconst (pc := 58) dX10_fallingLength_58 ?_
      refine x_iloadn (pc := 59) dX10_fallingLength_59 rfl ?_
      refine x_iloadn (pc := 60) dX10_fallingLength_60 rfl ?_
      refine x_isub (pc := 61) dX10_fallingLength_61 ?_
      refine x_mmax (pc := 62) dX10_fallingLength_62 lk_X10_25 (by omega) (Nat.le_of_ble_eq_true rfl) (by omega) ?_
      refine x_rI (pc := 65) dX10_fallingLength_65 rfl ?_
      exact ⟨by rw [if_neg (by omega)] at hz; omega, rfl⟩
    · skip
      refine x_aloadn (pc := 29) dX10_fallingLength_29 rfl ?_
      refine x_getR (r + 1) (pc := 30) dX10_fallingLength_30 fl_X10_11 (wd_k h).1 (wd_m h hL 0 (by decide)) (wd_f0 h hF) ?_
      refine x_iloadn (pc := 33) dX10_fallingLength_33 rfl ?_
      refine x_iald (like) (pc := 34) dX10_fallingLength_34 (wd_k h).2 (wd_m h hL 1 (by decide)) (⟨by omega, by omega, by decide⟩) ?_
      refine x_aloadn (pc := 35) dX10_fallingLength_35 rfl ?_
      refine x_getR (r + 1) (pc := 36) dX10_fallingLength_36 fl_X10_11 (wd_k h).1 (wd_m h hL 0 (by decide)) (wd_f0 h hF) ?_
      refine x_iloadn (pc := 39) dX10_fallingLength_39 rfl ?_
      refine x_iald (to) (pc := 40) dX10_fallingLength_40 (wd_k h).2 (wd_m h hL 1 (by decide)) (⟨by omega, by omega, by decide⟩) ?_
      rw [a1.1, a2.1]
      refine x_cge (tgt := 48) (pc := 41) dX10_fallingLength_41 (by decide) (by omega) (fun c_41 => ?_) (fun c_41 => ?_)
      · skip
        refine x_iloadn (pc := 48) dX10_fallingLength_48 rfl ?_
        refine x_iconst (pc := 49) dX10_fallingLength_49 ?_
        refine x_iadd (pc := 50) dX10_fallingLength_50 ?_
        refine x_istoren (pc := 51) dX10_fallingLength_51 rfl (by decide) rfl ?_
        refine x_iinc (pc := 52) dX10_fallingLength_52 rfl (by decide) rfl ?_
        refine x_goto (tgt := 6) (pc := 55) dX10_fallingLength_55 (by decide) ?_
        rw [if_pos (by omega)] at hz
        first | exact ih fr (to + 1) z (by omega) (by omega) (by omega) (by rw [if_pos (by omega)] at hz; exact hz) | exact ih (like + 1) (to + 1) z (by omega) (by omega) (by omega) (by rw [if_neg (by omega)] at hz; exact hz)
      · skip
        refine x_iloadn (pc := 44) dX10_fallingLength_44 rfl ?_
        refine x_goto (tgt := 51) (pc := 45) dX10_fallingLength_45 (by decide) ?_
        refine x_istoren (pc := 51) dX10_fallingLength_51 rfl (by decide) rfl ?_
        refine x_iinc (pc := 52) dX10_fallingLength_52 rfl (by decide) rfl ?_
        refine x_goto (tgt := 6) (pc := 55) dX10_fallingLength_55 (by decide) ?_
        rw [if_pos (by omega)] at hz
        first | exact ih fr (to + 1) z (by omega) (by omega) (by omega) (by rw [if_pos (by omega)] at hz; exact hz) | exact ih (like + 1) (to + 1) z (by omega) (by omega) (by omega) (by rw [if_neg (by omega)] at hz; exact hz)
/-- the length of the falling part from fr on -/
def zfl (f : Nat → Nat) (n fr : Nat) : Nat := zdv f n fr (n - (fr + 1)) fr (fr + 1)
theorem c_Wd_fl {r n fr : Nat} {f : Nat → Nat} {L : List Nat} {G : Nat → Nat → Int} (h : xWd r) (hL : x_SL L) (hF : x_Fin xFL G) (hW : cWd r n f G) (hfr : fr < n) :
    CM yX10_fallingLength mX10_fallingLength 1 0 0 [vR r, vI fr] L G (qI L fun x G' => x = zfl f n fr ∧ G' = G) := by
  have w2 := hW.2.1
  refine Ct.of_X (μ := mX10_fallingLength) rfl rfl (by decide) (fun h => by cases h) (Nat.le_of_ble_eq_true rfl) rfl ?_
  refine x_iloadn (pc := 0) dX10_fallingLength_0 rfl ?_
  refine x_istoren (pc := 1) dX10_fallingLength_1 rfl (by decide) rfl ?_
  refine x_iloadn (pc := 2) dX10_fallingLength_2 rfl ?_
  refine x_iconst (pc := 3) dX10_fallingLength_3 ?_
  refine x_iadd (pc := 4) dX10_fallingLength_4 ?_
  refine x_istoren (pc := 5) dX10_fallingLength_5 rfl (by decide) rfl ?_
  exact l_Wd_fl h hL hF hW (n - (fr + 1)) fr (fr + 1) _ (by omega) (by omega) (by omega) rfl
theorem zdv_bd {f : Nat → Nat} {n fr : Nat} : ∀ (k like to : Nat), fr ≤ like → like < to → 1 ≤ zdv f n fr k like to ∧ zdv f n fr k like to + fr ≤ to + k
  | 0, like, to, h1, h2 => by rw [zdv]; omega
  | k + 1, like, to, h1, h2 => by
    rw [zdv]
    split
    · have := zdv_bd (f := f) (n := n) (fr := fr) k (if f like < f to then fr else like + 1) (to + 1) (by split <;> omega) (by split <;> omega)
      omega
    · omega
theorem zfl_bd {f : Nat → Nat} {n fr : Nat} (h : fr < n) : 1 ≤ zfl f n fr ∧ fr + zfl f n fr ≤ n := by
  have := zdv_bd (f := f) (n := n) (fr := fr) (n - (fr + 1)) fr (fr + 1) (by omega) (by omega)
  unfold zfl; omega
def zfc (l : Nat → Nat) (n : Nat) : Nat → Nat → Nat
  | 0, _ => 0
  | k + 1, at' => if at' < n then zfc l n k (at' + l at') + 1 else 0
def zfk (l : Nat → Nat) (n K : Nat) : Nat → Nat → Nat → Int
  | 0, _, _ => -1
  | k + 1, at', m => if at' < n then (if m = K then (l at' : Int) else zfk l n K k (at' + l at') (m + 1)) else -1
theorem l_Wd_fp {r n : Nat} {f : Nat → Nat} {L : List Nat} {G : Nat → Nat → Int} (h : xWd r) (hL : x_SL L) (hF : x_Fin xFL G) (hW : cWd r n f G) :
    ∀ (k p m z : Nat), n < p + k → p ≤ n → m ≤ p → zfc (zfl f n) n k p + m = z → X mX10_fallingParts 2 0 0 (qI L fun x G' => x = z ∧ G' = G) 4 [some (vR r), some (vI m), some (vI p)] [] L G 0 0 := by
  obtain ⟨w1, w2, w3⟩ := id hW
  intro k
  induction k with
  | zero => intro p m z hp hpn hm hz; omega
  | succ k ih =>
    intro p m z hp hpn hm hz
    rw [zfc] at hz
    by_cases c : p < n
    · rw [if_pos c] at hz
      have hb := zfl_bd (f := f) c
      refine x_iloadn (pc := 4) dX10_fallingParts_4 rfl ?_
      refine x_bipush (pc := 5) dX10_fallingParts_5 (by decide) ?_
      refine x_cge (tgt := 32) (pc := 7) dX10_fallingParts_7 (by decide) (by omega) (fun c_7 => ?_) (fun c_7 => ?_)
      · skip
        exact absurd c_7 (by omega)
      refine x_iloadn (pc := 10) dX10_fallingParts_10 rfl ?_
      refine x_aloadn (pc := 11) dX10_fallingParts_11 rfl ?_
      refine x_getI (pc := 12) dX10_fallingParts_12 fl_X10_15 (wd_k h).1 (wd_m h hL 0 (by decide)) ?_
      refine x_cge (tgt := 32) (pc := 15) dX10_fallingParts_15 (by decide) (by omega) (fun c_15 => ?_) (fun c_15 => ?_)
      · skip
        exact absurd c_15 (by omega)
      refine x_iloadn (pc := 18) dX10_fallingParts_18 rfl ?_
      refine x_aloadn (pc := 19) dX10_fallingParts_19 rfl ?_
      refine x_iloadn (pc := 20) dX10_fallingParts_20 rfl ?_
      refine x_cVI (pc := 21) dX10_fallingParts_21 lk_X10_43 (c_Wd_fl h hL hF hW c) (wd_k h).1 ⟨by decide, rfl⟩ (wd_m h hL 0 (by decide)) (⟨by decide, by decide⟩) (Nat.le_of_ble_eq_true rfl) rfl ?_
      rintro x G' ⟨rfl, rfl⟩
      refine x_iadd (pc := 24) dX10_fallingParts_24 ?_
      refine x_istoren (pc := 25) dX10_fallingParts_25 rfl (by decide) rfl ?_
      refine x_iinc (pc := 26) dX10_fallingParts_26 rfl (by decide) rfl ?_
      refine x_goto (tgt := 4) (pc := 29) dX10_fallingParts_29 (by decide) ?_
      exact ih (p + zfl f n p) (m + 1) z (by omega) (by omega) (by omega) (by omega)
    · rw [if_neg c] at hz
      refine x_iloadn (pc := 4) dX10_fallingParts_4 rfl ?_
      refine x_bipush (pc := 5) dX10_fallingParts_5 (by decide) ?_
      refine x_cge (tgt := 32) (pc := 7) dX10_fallingParts_7 (by decide) (by omega) (fun c_7 => ?_) (fun c_7 => ?_)
      · skip
        refine x_iloadn (pc := 32) dX10_fallingParts_32 rfl ?_
        refine x_rI (pc := 33) dX10_fallingParts_33 rfl ?_
        exact ⟨by omega, rfl⟩
      · skip
        refine x_iloadn (pc := 10) dX10_fallingParts_10 rfl ?_
        refine x_aloadn (pc := 11) dX10_fallingParts_11 rfl ?_
        refine x_getI (pc := 12) dX10_fallingParts_12 fl_X10_15 (wd_k h).1 (wd_m h hL 0 (by decide)) ?_
        refine x_cge (tgt := 32) (pc := 15) dX10_fallingParts_15 (by decide) (by omega) (fun c_15 => ?_) (fun c_15 => ?_)
        rotate_left
        · skip
          exact absurd c_15 (by omega)
        refine x_iloadn (pc := 32) dX10_fallingParts_32 rfl ?_
        refine x_rI (pc := 33) dX10_fallingParts_33 rfl ?_
        exact ⟨by omega, rfl⟩
theorem c_Wd_fp {r n : Nat} {f : Nat → Nat} {L : List Nat} {G : Nat → Nat → Int} (h : xWd r) (hL : x_SL L) (hF : x_Fin xFL G) (hW : cWd r n f G) :
    CM yX10_fallingParts mX10_fallingParts 2 0 0 [vR r] L G (qI L fun x G' => x = zfc (zfl f n) n (n + 1) 0 ∧ G' = G) := by
  refine Ct.of_X (μ := mX10_fallingParts) rfl rfl (by decide) (fun h => by cases h) (Nat.le_of_ble_eq_true rfl) rfl ?_
  refine x_iconst (pc := 0) dX10_fallingParts_0 ?_
  refine x_istoren (pc := 1) dX10_fallingParts_1 rfl (by decide) rfl ?_
  refine x_iconst (pc := 2) dX10_fallingParts_2 ?_
  refine x_istoren (pc := 3) dX10_fallingParts_3 rfl (by decide) rfl ?_
  exact l_Wd_fp h hL hF hW (n + 1) 0 0 _ (by omega) (by omega) (by omega) rfl
theorem l_Wd_fk {r n : Nat} {K : Int} {f : Nat → Nat} {L : List Nat} {G : Nat → Nat → Int} (h : xWd r) (hL : x_SL L) (hF : x_Fin xFL G) (hW : cWd r n f G) (hK : 0 ≤ K ∧ K < 2147483648) :
    ∀ (k p m : Nat) (z : Int), n < p + k → p ≤ n → m ≤ p → m ≤ K.toNat → zfk (zfl f n) n K.toNat k p m = z → X mX10_fallingPart 2 0 0 (qI L fun x G' => x = z ∧ G' = G) 4 [some (vR r), some (vI K), some (vI p), some (vI m)] [] L G 0 0 := by
  obtain ⟨w1, w2, w3⟩ := id hW
  intro k
  induction k with
  | zero => intro p m z hp hpn hm hmK hz; omega
  | succ k ih =>
    intro p m z hp hpn hm hmK hz
    rw [zfk] at hz
    by_cases c : p < n
    · rw [if_pos c] at hz
      have hb := zfl_bd (f := f) c
      by_cases cK : m = K.toNat
      · rw [if_pos cK] at hz
        refine x_iloadn (pc := 4) dX10_fallingPart_4 rfl ?_
        refine x_iloadn (pc := 5) dX10_fallingPart_5 rfl ?_
        refine x_cge (tgt := 37) (pc := 6) dX10_fallingPart_6 (by decide) (by omega) (fun c_6 => ?_) (fun c_6 => ?_)
        rotate_left
        · skip
          exact absurd c_6 (by omega)
        refine x_iloadn (pc := 37) dX10_fallingPart_37 rfl ?_
        refine x_aloadn (pc := 38) dX10_fallingPart_38 rfl ?_
        refine x_getI (pc := 39) dX10_fallingPart_39 fl_X10_15 (wd_k h).1 (wd_m h hL 0 (by decide)) ?_
        refine x_cge (tgt := 53) (pc := 42) dX10_fallingPart_42 (by decide) (by omega) (fun c_42 => ?_) (fun c_42 => ?_)
        · skip
          exact absurd c_42 (by omega)
        refine x_aloadn (pc := 45) dX10_fallingPart_45 rfl ?_
        refine x_iloadn (pc := 46) dX10_fallingPart_46 rfl ?_
        refine x_cVI (pc := 47) dX10_fallingPart_47 lk_X10_43 (c_Wd_fl h hL hF hW c) (wd_k h).1 ⟨by decide, rfl⟩ (wd_m h hL 0 (by decide)) (⟨by decide, by decide⟩) (Nat.le_of_ble_eq_true rfl) rfl ?_
        rintro x G' ⟨rfl, rfl⟩
        refine x_goto (tgt := 54) (pc := 50) dX10_fallingPart_50 (by decide) ?_
        refine x_rI (pc := 54) dX10_fallingPart_54 rfl ?_
        exact ⟨hz, rfl⟩
      · rw [if_neg cK] at hz
        refine x_iloadn (pc := 4) dX10_fallingPart_4 rfl ?_
        refine x_iloadn (pc := 5) dX10_fallingPart_5 rfl ?_
        refine x_cge (tgt := 37) (pc := 6) dX10_fallingPart_6 (by decide) (by omega) (fun c_6 => ?_) (fun c_6 => ?_)
        · skip
          exact absurd c_6 (by omega)
        refine x_iloadn (pc := 9) dX10_fallingPart_9 rfl ?_
        refine x_bipush (pc := 10) dX10_fallingPart_10 (by decide) ?_
        refine x_cge (tgt := 37) (pc := 12) dX10_fallingPart_12 (by decide) (by omega) (fun c_12 => ?_) (fun c_12 => ?_)
        · skip
          exact absurd c_12 (by omega)
        refine x_iloadn (pc := 15) dX10_fallingPart_15 rfl ?_
        refine x_aloadn (pc := 16) dX10_fallingPart_16 rfl ?_
        refine x_getI (pc := 17) dX10_fallingPart_17 fl_X10_15 (wd_k h).1 (wd_m h hL 0 (by decide)) ?_
        refine x_cge (tgt := 37) (pc := 20) dX10_fallingPart_20 (by decide) (by omega) (fun c_20 => ?_) (fun c_20 => ?_)
        · skip
          exact absurd c_20 (by omega)
        refine x_iloadn (pc := 23) dX10_fallingPart_23 rfl ?_
        refine x_aloadn (pc := 24) dX10_fallingPart_24 rfl ?_
        refine x_iloadn (pc := 25) dX10_fallingPart_25 rfl ?_
        refine x_cVI (pc := 26) dX10_fallingPart_26 lk_X10_43 (c_Wd_fl h hL hF hW c) (wd_k h).1 ⟨by decide, rfl⟩ (wd_m h hL 0 (by decide)) (⟨by decide, by decide⟩) (Nat.le_of_ble_eq_true rfl) rfl ?_
        rintro x G' ⟨rfl, rfl⟩
        refine x_iadd (pc := 29) dX10_fallingPart_29 ?_
        refine x_istoren (pc := 30) dX10_fallingPart_30 rfl (by decide) rfl ?_
        refine x_iinc (pc := 31) dX10_fallingPart_31 rfl (by decide) rfl ?_
        refine x_goto (tgt := 4) (pc := 34) dX10_fallingPart_34 (by decide) ?_
        exact ih (p + zfl f n p) (m + 1) z (by omega) (by omega) (by omega) (by omega) hz
    · rw [if_neg c] at hz
      refine x_iloadn (pc := 4) dX10_fallingPart_4 rfl ?_
      refine x_iloadn (pc := 5) dX10_fallingPart_5 rfl ?_
      refine x_cge (tgt := 37) (pc := 6) dX10_fallingPart_6 (by decide) (by omega) (fun c_6 => ?_) (fun c_6 => ?_)
      · skip
        refine x_iloadn (pc := 37) dX10_fallingPart_37 rfl ?_
        refine x_aloadn (pc := 38) dX10_fallingPart_38 rfl ?_
        refine x_getI (pc := 39) dX10_fallingPart_39 fl_X10_15 (wd_k h).1 (wd_m h hL 0 (by decide)) ?_
        refine x_cge (tgt := 53) (pc := 42) dX10_fallingPart_42 (by decide) (by omega) (fun c_42 => ?_) (fun c_42 => ?_)
        rotate_left
        · skip
          exact absurd c_42 (by omega)
        refine x_iconst (pc := 53) dX10_fallingPart_53 ?_
        refine x_rI (pc := 54) dX10_fallingPart_54 rfl ?_
        exact ⟨hz, rfl⟩
      · skip
        refine x_iloadn (pc := 9) dX10_fallingPart_9 rfl ?_
        refine x_bipush (pc := 10) dX10_fallingPart_10 (by decide) ?_
        refine x_cge (tgt := 37) (pc := 12) dX10_fallingPart_12 (by decide) (by omega) (fun c_12 => ?_) (fun c_12 => ?_)
        · skip
          refine x_iloadn (pc := 37) dX10_fallingPart_37 rfl ?_
          refine x_aloadn (pc := 38) dX10_fallingPart_38 rfl ?_
          refine x_getI (pc := 39) dX10_fallingPart_39 fl_X10_15 (wd_k h).1 (wd_m h hL 0 (by decide)) ?_
          refine x_cge (tgt := 53) (pc := 42) dX10_fallingPart_42 (by decide) (by omega) (fun c_42 => ?_) (fun c_42 => ?_)
          rotate_left
          · skip
            exact absurd c_42 (by omega)
          refine x_iconst (pc := 53) dX10_fallingPart_53 ?_
          refine x_rI (pc := 54) dX10_fallingPart_54 rfl ?_
          exact ⟨hz, rfl⟩
        · skip
          refine x_iloadn (pc := 15) dX10_fallingPart_15 rfl ?_
          refine x_aloadn (pc := 16) dX10_fallingPart_16 rfl ?_
          refine x_getI (pc := 17) dX10_fallingPart_17 fl_X10_15 (wd_k h).1 (wd_m h hL 0 (by decide)) ?_
          refine x_cge (tgt := 37) (pc := 20) dX10_fallingPart_20 (by decide) (by omega) (fun c_20 => ?_) (fun c_20 => ?_)
          rotate_left
          · skip
            exact absurd c_20 (by omega)
          refine x_iloadn (pc := 37) dX10_fallingPart_37 rfl ?_
          refine x_aloadn (pc := 38) dX10_fallingPart_38 rfl ?_
          refine x_getI (pc := 39) dX10_fallingPart_39 fl_X10_15 (wd_k h).1 (wd_m h hL 0 (by decide)) ?_
          refine x_cge (tgt := 53) (pc := 42) dX10_fallingPart_42 (by decide) (by omega) (fun c_42 => ?_) (fun c_42 => ?_)
          rotate_left
          · skip
            exact absurd c_42 (by omega)
          refine x_iconst (pc := 53) dX10_fallingPart_53 ?_
          refine x_rI (pc := 54) dX10_fallingPart_54 rfl ?_
          exact ⟨hz, rfl⟩
theorem c_Wd_fk {r n : Nat} {K : Int} {f : Nat → Nat} {L : List Nat} {G : Nat → Nat → Int} (h : xWd r) (hL : x_SL L) (hF : x_Fin xFL G) (hW : cWd r n f G) (hK : 0 ≤ K ∧ K < 2147483648) :
    CM yX10_fallingPart mX10_fallingPart 2 0 0 [vR r, vI K] L G (qI L fun x G' => x = zfk (zfl f n) n K.toNat (n + 1) 0 0 ∧ G' = G) := by
  refine Ct.of_X (μ := mX10_fallingPart) rfl rfl (by decide) (fun h => by cases h) (Nat.le_of_ble_eq_true rfl) rfl ?_
  refine x_iconst (pc := 0) dX10_fallingPart_0 ?_
  refine x_istoren (pc := 1) dX10_fallingPart_1 rfl (by decide) rfl ?_
  refine x_iconst (pc := 2) dX10_fallingPart_2 ?_
  refine x_istoren (pc := 3) dX10_fallingPart_3 rfl (by decide) rfl ?_
  exact l_Wd_fk h hL hF hW hK (n + 1) 0 0 _ (by omega) (by omega) (by omega) (by omega) rfl
/-! two words -/
def zbh (n : Nat) (f g : Nat → Nat) (k : Nat) : Nat := if k < n then f k else g (k - n)
def zag (n m : Nat) (f g : Nat → Nat) : Bool := zall (fun k => zbh n f g k == zbh m g f k) (n + m)
theorem l_Wd_ag {r s n m : Nat} {f g : Nat → Nat} {L : List Nat} {G : Nat → Nat → Int} (h : xWd r) (hs : xWd s) (hL : x_SL L) (hF : x_Fin xFL G) (hW : cWd r n f G) (hV : cWd s m g G) :
    ∀ (k i : Nat) (o4 o5 : Option (Nat × Int)), i + k = n + m → (∀ j, j < i → zbh n f g j = zbh m g f j) → X mX10_agreesWith 0 0 0 (qI L fun x G' => x = (if zag n m f g = true then 1 else 0) ∧ G' = G) 12 [some (vR r), some (vR s), some (vI ((n + m : Nat) : Int)), some (vI i), o4, o5] [] L G 0 0 := by
  obtain ⟨w1, w2, w3⟩ := hW
  obtain ⟨v1, v2, v3⟩ := hV
  intro k
  induction k with
  | zero =>
    intro i o4 o5 hi hg
    refine x_iloadn (pc := 12) dX10_agreesWith_12 rfl ?_
    refine x_iloadn (pc := 13) dX10_agreesWith_13 rfl ?_
    refine x_cge (tgt := 92) (pc := 14) dX10_agreesWith_14 (by decide) (by omega) (fun c_14 => ?_) (fun c_14 => ?_)
    rotate_left
    · skip
      exact absurd c_14 (by omega)
    refine x_iconst (pc := 92) dX10_agreesWith_92 ?_
    refine x_rZ (pc := 93) dX10_agreesWith_93 rfl (by omega) ?_
    exact ⟨by rw [if_pos (by unfold zag; exact (zall_iff _).mpr fun j hj => by have := hg j (by omega); simpa using this)], rfl⟩
  | succ k ih =>
    intro i o4 o5 hi hg
    have e1 : zbh n f g i = if i < n then f i else g (i - n) := rfl
    have e2 : zbh m g f i = if i < m then g i else f (i - m) := rfl
    refine x_iloadn (pc := 12) dX10_agreesWith_12 rfl ?_
    refine x_iloadn (pc := 13) dX10_agreesWith_13 rfl ?_
    refine x_cge (tgt := 92) (pc := 14) dX10_agreesWith_14 (by decide) (by omega) (fun c_14 => ?_) (fun c_14 => ?_)
    · skip
      exact absurd c_14 (by omega)
    refine x_iloadn (pc := 17) dX10_agreesWith_17 rfl ?_
    refine x_aloadn (pc := 18) dX10_agreesWith_18 rfl ?_
    refine x_getI (pc := 19) dX10_agreesWith_19 fl_X10_15 (wd_k h).1 (wd_m h hL 0 (by decide)) ?_
    refine x_cge (tgt := 34) (pc := 22) dX10_agreesWith_22 (by decide) (by omega) (fun c_22 => ?_) (fun c_22 => ?_)
    · skip
      refine x_aloadn (pc := 34) dX10_agreesWith_34 rfl ?_
      refine x_getR (s + 1) (pc := 35) dX10_agreesWith_35 fl_X10_11 (wd_k hs).1 (wd_m hs hL 0 (by decide)) (wd_f0 hs hF) ?_
      refine x_iloadn (pc := 38) dX10_agreesWith_38 rfl ?_
      refine x_aloadn (pc := 39) dX10_agreesWith_39 rfl ?_
      refine x_getI (pc := 40) dX10_agreesWith_40 fl_X10_15 (wd_k h).1 (wd_m h hL 0 (by decide)) ?_
      refine x_isub (pc := 43) dX10_agreesWith_43 ?_
      refine x_iald (i - n) (pc := 44) dX10_agreesWith_44 (wd_k hs).2 (wd_m hs hL 1 (by decide)) (⟨by omega, by omega, by decide⟩) ?_
      rw [(v3 (i - n) (by omega)).1]; have b1 := (v3 (i - n) (by omega)).2
      refine x_istore (pc := 45) dX10_agreesWith_45 (by decide) rfl ?_
      refine x_iloadn (pc := 47) dX10_agreesWith_47 rfl ?_
      refine x_aloadn (pc := 48) dX10_agreesWith_48 rfl ?_
      refine x_getI (pc := 49) dX10_agreesWith_49 fl_X10_15 (wd_k hs).1 (wd_m hs hL 0 (by decide)) ?_
      refine x_cge (tgt := 64) (pc := 52) dX10_agreesWith_52 (by decide) (by omega) (fun c_52 => ?_) (fun c_52 => ?_)
      · skip
        refine x_aloadn (pc := 64) dX10_agreesWith_64 rfl ?_
        refine x_getR (r + 1) (pc := 65) dX10_agreesWith_65 fl_X10_11 (wd_k h).1 (wd_m h hL 0 (by decide)) (wd_f0 h hF) ?_
        refine x_iloadn (pc := 68) dX10_agreesWith_68 rfl ?_
        refine x_aloadn (pc := 69) dX10_agreesWith_69 rfl ?_
        refine x_getI (pc := 70) dX10_agreesWith_70 fl_X10_15 (wd_k hs).1 (wd_m hs hL 0 (by decide)) ?_
        refine x_isub (pc := 73) dX10_agreesWith_73 ?_
        refine x_iald (i - m) (pc := 74) dX10_agreesWith_74 (wd_k h).2 (wd_m h hL 1 (by decide)) (⟨by omega, by omega, by decide⟩) ?_
        rw [(w3 (i - m) (by omega)).1]; have b2 := (w3 (i - m) (by omega)).2
        refine x_istore (pc := 75) dX10_agreesWith_75 (by decide) rfl ?_
        refine x_iload (pc := 77) dX10_agreesWith_77 rfl ?_
        refine x_iload (pc := 79) dX10_agreesWith_79 rfl ?_
        refine x_ceq (tgt := 86) (pc := 81) dX10_agreesWith_81 (by decide) (by omega) (fun c_81 => ?_) (fun c_81 => ?_)
        · skip
          refine x_iinc (pc := 86) dX10_agreesWith_86 rfl (by decide) rfl ?_
          refine x_goto (tgt := 12) (pc := 89) dX10_agreesWith_89 (by decide) ?_
          refine ih (i + 1) _ _ (by omega) (fun j hj => ?_)
          by_cases c : j = i
          · subst c; split at e1 <;> split at e2 <;> omega
          · exact hg j (by omega)
        · skip
          refine x_iconst (pc := 84) dX10_agreesWith_84 ?_
          refine x_rZ (pc := 85) dX10_agreesWith_85 rfl (by omega) ?_
          refine ⟨?_, rfl⟩
          rw [if_neg]
          intro q
          unfold zag at q
          have q2 := (zall_iff _).mp q i (by omega)
          have q3 : zbh n f g i = zbh m g f i := by simpa using q2
          split at e1 <;> split at e2 <;> omega
      · skip
        refine x_aloadn (pc := 55) dX10_agreesWith_55 rfl ?_
        refine x_getR (s + 1) (pc := 56) dX10_agreesWith_56 fl_X10_11 (wd_k hs).1 (wd_m hs hL 0 (by decide)) (wd_f0 hs hF) ?_
        refine x_iloadn (pc := 59) dX10_agreesWith_59 rfl ?_
        refine x_iald (i) (pc := 60) dX10_agreesWith_60 (wd_k hs).2 (wd_m hs hL 1 (by decide)) (⟨by omega, by omega, by decide⟩) ?_
        rw [(v3 i (by omega)).1]; have b2 := (v3 i (by omega)).2
        refine x_goto (tgt := 75) (pc := 61) dX10_agreesWith_61 (by decide) ?_
        refine x_istore (pc := 75) dX10_agreesWith_75 (by decide) rfl ?_
        refine x_iload (pc := 77) dX10_agreesWith_77 rfl ?_
        refine x_iload (pc := 79) dX10_agreesWith_79 rfl ?_
        refine x_ceq (tgt := 86) (pc := 81) dX10_agreesWith_81 (by decide) (by omega) (fun c_81 => ?_) (fun c_81 => ?_)
        · skip
          refine x_iinc (pc := 86) dX10_agreesWith_86 rfl (by decide) rfl ?_
          refine x_goto (tgt := 12) (pc := 89) dX10_agreesWith_89 (by decide) ?_
          refine ih (i + 1) _ _ (by omega) (fun j hj => ?_)
          by_cases c : j = i
          · subst c; split at e1 <;> split at e2 <;> omega
          · exact hg j (by omega)
        · skip
          refine x_iconst (pc := 84) dX10_agreesWith_84 ?_
          refine x_rZ (pc := 85) dX10_agreesWith_85 rfl (by omega) ?_
          refine ⟨?_, rfl⟩
          rw [if_neg]
          intro q
          unfold zag at q
          have q2 := (zall_iff _).mp q i (by omega)
          have q3 : zbh n f g i = zbh m g f i := by simpa using q2
          split at e1 <;> split at e2 <;> omega
    · skip
      refine x_aloadn (pc := 25) dX10_agreesWith_25 rfl ?_
      refine x_getR (r + 1) (pc := 26) dX10_agreesWith_26 fl_X10_11 (wd_k h).1 (wd_m h hL 0 (by decide)) (wd_f0 h hF) ?_
      refine x_iloadn (pc := 29) dX10_agreesWith_29 rfl ?_
      refine x_iald (i) (pc := 30) dX10_agreesWith_30 (wd_k h).2 (wd_m h hL 1 (by decide)) (⟨by omega, by omega, by decide⟩) ?_
      rw [(w3 i (by omega)).1]; have b1 := (w3 i (by omega)).2
      refine x_goto (tgt := 45) (pc := 31) dX10_agreesWith_31 (by decide) ?_
      refine x_istore (pc := 45) dX10_agreesWith_45 (by decide) rfl ?_
      refine x_iloadn (pc := 47) dX10_agreesWith_47 rfl ?_
      refine x_aloadn (pc := 48) dX10_agreesWith_48 rfl ?_
      refine x_getI (pc := 49) dX10_agreesWith_49 fl_X10_15 (wd_k hs).1 (wd_m hs hL 0 (by decide)) ?_
      refine x_cge (tgt := 64) (pc := 52) dX10_agreesWith_52 (by decide) (by omega) (fun c_52 => ?_) (fun c_52 => ?_)
      · skip
        refine x_aloadn (pc := 64) dX10_agreesWith_64 rfl ?_
        refine x_getR (r + 1) (pc := 65) dX10_agreesWith_65 fl_X10_11 (wd_k h).1 (wd_m h hL 0 (by decide)) (wd_f0 h hF) ?_
        refine x_iloadn (pc := 68) dX10_agreesWith_68 rfl ?_
        refine x_aloadn (pc := 69) dX10_agreesWith_69 rfl ?_
        refine x_getI (pc := 70) dX10_agreesWith_70 fl_X10_15 (wd_k hs).1 (wd_m hs hL 0 (by decide)) ?_
        refine x_isub (pc := 73) dX10_agreesWith_73 ?_
        refine x_iald (i - m) (pc := 74) dX10_agreesWith_74 (wd_k h).2 (wd_m h hL 1 (by decide)) (⟨by omega, by omega, by decide⟩) ?_
        rw [(w3 (i - m) (by omega)).1]; have b2 := (w3 (i - m) (by omega)).2
        refine x_istore (pc := 75) dX10_agreesWith_75 (by decide) rfl ?_
        refine x_iload (pc := 77) dX10_agreesWith_77 rfl ?_
        refine x_iload (pc := 79) dX10_agreesWith_79 rfl ?_
        refine x_ceq (tgt := 86) (pc := 81) dX10_agreesWith_81 (by decide) (by omega) (fun c_81 => ?_) (fun c_81 => ?_)
        · skip
          refine x_iinc (pc := 86) dX10_agreesWith_86 rfl (by decide) rfl ?_
          refine x_goto (tgt := 12) (pc := 89) dX10_agreesWith_89 (by decide) ?_
          refine ih (i + 1) _ _ (by omega) (fun j hj => ?_)
          by_cases c : j = i
          · subst c; split at e1 <;> split at e2 <;> omega
          · exact hg j (by omega)
        · skip
          refine x_iconst (pc := 84) dX10_agreesWith_84 ?_
          refine x_rZ (pc := 85) dX10_agreesWith_85 rfl (by omega) ?_
          refine ⟨?_, rfl⟩
          rw [if_neg]
          intro q
          unfold zag at q
          have q2 := (zall_iff _).mp q i (by omega)
          have q3 : zbh n f g i = zbh m g f i := by simpa using q2
          split at e1 <;> split at e2 <;> omega
      · skip
        refine x_aloadn (pc := 55) dX10_agreesWith_55 rfl ?_
        refine x_getR (s + 1) (pc := 56) dX10_agreesWith_56 fl_X10_11 (wd_k hs).1 (wd_m hs hL 0 (by decide)) (wd_f0 hs hF) ?_
        refine x_iloadn (pc := 59) dX10_agreesWith_59 rfl ?_
        refine x_iald (i) (pc := 60) dX10_agreesWith_60 (wd_k hs).2 (wd_m hs hL 1 (by decide)) (⟨by omega, by omega, by decide⟩) ?_
        rw [(v3 i (by omega)).1]; have b2 := (v3 i (by omega)).2
        refine x_goto (tgt := 75) (pc := 61) dX10_agreesWith_61 (by decide) ?_
        refine x_istore (pc := 75) dX10_agreesWith_75 (by decide) rfl ?_
        refine x_iload (pc := 77) dX10_agreesWith_77 rfl ?_
        refine x_iload (pc := 79) dX10_agreesWith_79 rfl ?_
        refine x_ceq (tgt := 86) (pc := 81) dX10_agreesWith_81 (by decide) (by omega) (fun c_81 => ?_) (fun c_81 => ?_)
        · skip
          refine x_iinc (pc := 86) dX10_agreesWith_86 rfl (by decide) rfl ?_
          refine x_goto (tgt := 12) (pc := 89) dX10_agreesWith_89 (by decide) ?_
          refine ih (i + 1) _ _ (by omega) (fun j hj => ?_)
          by_cases c : j = i
          · subst c; split at e1 <;> split at e2 <;> omega
          · exact hg j (by omega)
        · skip
          refine x_iconst (pc := 84) dX10_agreesWith_84 ?_
          refine x_rZ (pc := 85) dX10_agreesWith_85 rfl (by omega) ?_
          refine ⟨?_, rfl⟩
          rw [if_neg]
          intro q
          unfold zag at q
          have q2 := (zall_iff _).mp q i (by omega)
          have q3 : zbh n f g i = zbh m g f i := by simpa using q2
          split at e1 <;> split at e2 <;> omega
theorem c_Wd_ag {r s n m : Nat} {f g : Nat → Nat} {L : List Nat} {G : Nat → Nat → Int} (h : xWd r) (hs : xWd s) (hL : x_SL L) (hF : x_Fin xFL G) (hW : cWd r n f G) (hV : cWd s m g G) :
    CM yX10_agreesWith mX10_agreesWith 0 0 0 [vR r, vR s] L G (qI L fun x G' => x = (if zag n m f g = true then 1 else 0) ∧ G' = G) := by
  refine Ct.of_X (μ := mX10_agreesWith) rfl rfl (by decide) (fun h => by cases h) (Nat.le_of_ble_eq_true rfl) rfl ?_
  refine x_aloadn (pc := 0) dX10_agreesWith_0 rfl ?_
  refine x_getI (pc := 1) dX10_agreesWith_1 fl_X10_15 (wd_k h).1 (wd_m h hL 0 (by decide)) ?_
  refine x_aloadn (pc := 4) dX10_agreesWith_4 rfl ?_
  refine x_getI (pc := 5) dX10_agreesWith_5 fl_X10_15 (wd_k hs).1 (wd_m hs hL 0 (by decide)) ?_
  refine x_iadd (pc := 8) dX10_agreesWith_8 ?_
  rw [hW.1, hV.1]
  refine x_istoren (pc := 9) dX10_agreesWith_9 rfl (by decide) rfl ?_
  refine x_iconst (pc := 10) dX10_agreesWith_10 ?_
  refine x_istoren (pc := 11) dX10_agreesWith_11 rfl (by decide) rfl ?_
  exact l_Wd_ag h hs hL hF hW hV (n + m) 0 _ _ (by omega) (fun j hj => absurd hj (Nat.not_lt_zero j))
def ztu (n : Nat) (f g : Nat → Nat) (k : Nat) : Bool := zall (fun x => ztl f n k x == g x) n
def ztd (n m : Nat) (f g : Nat → Nat) : Int := if n ≠ m then -1 else if n = 0 then 0 else if zfnd (ztu n f g) n 0 < n then (zfnd (ztu n f g) n 0 : Int) else -1
theorem l_Wd_tu {r s n t : Nat} {f g : Nat → Nat} {L : List Nat} {G : Nat → Nat → Int} (h : xWd r) (hs : xWd s) (hL : x_SL L) (hF : x_Fin xFL G) (hW : cWd r n f G) (hV : cWd s n g G) (ht : t < n) :
    ∀ (k i : Nat), i + k = n → (∀ j, j < i → ztl f n t j = g j) → X mX10_isTurn 1 0 0 (qI L fun x G' => x = (if ztu n f g t = true then 1 else 0) ∧ G' = G) 2 [some (vR r), some (vI t), some (vR s), some (vI i)] [] L G 0 0 := by
  obtain ⟨w1, w2, w3⟩ := id hW
  obtain ⟨v1, v2, v3⟩ := hV
  intro k
  induction k with
  | zero =>
    intro i hi hg
    refine x_iloadn (pc := 2) dX10_isTurn_2 rfl ?_
    refine x_aloadn (pc := 3) dX10_isTurn_3 rfl ?_
    refine x_getI (pc := 4) dX10_isTurn_4 fl_X10_15 (wd_k h).1 (wd_m h hL 0 (by decide)) ?_
    refine x_cge (tgt := 41) (pc := 7) dX10_isTurn_7 (by decide) (by omega) (fun c_7 => ?_) (fun c_7 => ?_)
    rotate_left
    · skip
      exact absurd c_7 (by omega)
    refine x_iconst (pc := 41) dX10_isTurn_41 ?_
    refine x_rZ (pc := 42) dX10_isTurn_42 rfl (by omega) ?_
    exact ⟨by rw [if_pos (by unfold ztu; exact (zall_iff _).mpr fun j hj => by have := hg j (by omega); simpa using this)], rfl⟩
  | succ k ih =>
    intro i hi hg
    have b1 := ztl_lt (f := f) (n := n) (k := t) (i := i) (by omega) (fun j hj => (w3 j hj).2)
    have b2 := v3 i (by omega)
    refine x_iloadn (pc := 2) dX10_isTurn_2 rfl ?_
    refine x_aloadn (pc := 3) dX10_isTurn_3 rfl ?_
    refine x_getI (pc := 4) dX10_isTurn_4 fl_X10_15 (wd_k h).1 (wd_m h hL 0 (by decide)) ?_
    refine x_cge (tgt := 41) (pc := 7) dX10_isTurn_7 (by decide) (by omega) (fun c_7 => ?_) (fun c_7 => ?_)
    · skip
      exact absurd c_7 (by omega)
    refine x_iloadn (pc := 10) dX10_isTurn_10 rfl ?_
    refine x_aloadn (pc := 11) dX10_isTurn_11 rfl ?_
    refine x_getI (pc := 12) dX10_isTurn_12 fl_X10_15 (wd_k hs).1 (wd_m hs hL 0 (by decide)) ?_
    refine x_cge (tgt := 41) (pc := 15) dX10_isTurn_15 (by decide) (by omega) (fun c_15 => ?_) (fun c_15 => ?_)
    · skip
      exact absurd c_15 (by omega)
    refine x_aloadn (pc := 18) dX10_isTurn_18 rfl ?_
    refine x_iloadn (pc := 19) dX10_isTurn_19 rfl ?_
    refine x_iloadn (pc := 20) dX10_isTurn_20 rfl ?_
    refine x_cVI (pc := 21) dX10_isTurn_21 lk_X10_40 (c_Wd_tl h hL hF hW ht (by omega)) (wd_k h).1 ⟨by decide, rfl⟩ (wd_m h hL 0 (by decide)) (⟨by decide, by decide⟩) (Nat.le_of_ble_eq_true rfl) rfl ?_
    rintro x G' ⟨rfl, rfl⟩
    refine x_aloadn (pc := 24) dX10_isTurn_24 rfl ?_
    refine x_getR (s + 1) (pc := 25) dX10_isTurn_25 fl_X10_11 (wd_k hs).1 (wd_m hs hL 0 (by decide)) (wd_f0 hs hF) ?_
    refine x_iloadn (pc := 28) dX10_isTurn_28 rfl ?_
    refine x_iald (i) (pc := 29) dX10_isTurn_29 (wd_k hs).2 (wd_m hs hL 1 (by decide)) (⟨by omega, by omega, by decide⟩) ?_
    rw [b2.1]
    refine x_ceq (tgt := 35) (pc := 30) dX10_isTurn_30 (by decide) (by omega) (fun c_30 => ?_) (fun c_30 => ?_)
    · skip
      refine x_iinc (pc := 35) dX10_isTurn_35 rfl (by decide) rfl ?_
      refine x_goto (tgt := 2) (pc := 38) dX10_isTurn_38 (by decide) ?_
      refine ih (i + 1) (by omega) (fun j hj => ?_)
      by_cases c : j = i
      · subst c; omega
      · exact hg j (by omega)
    · skip
      refine x_iconst (pc := 33) dX10_isTurn_33 ?_
      refine x_rZ (pc := 34) dX10_isTurn_34 rfl (by omega) ?_
      refine ⟨?_, rfl⟩
      rw [if_neg]
      intro q
      unfold ztu at q
      have q2 := (zall_iff _).mp q i (by omega)
      have q3 : ztl f n t i = g i := by simpa using q2
      omega
theorem c_Wd_tu {r s n t : Nat} {f g : Nat → Nat} {L : List Nat} {G : Nat → Nat → Int} (h : xWd r) (hs : xWd s) (hL : x_SL L) (hF : x_Fin xFL G) (hW : cWd r n f G) (hV : cWd s n g G) (ht : t < n) :
    CM yX10_isTurn mX10_isTurn 1 0 0 [vR r, vI t, vR s] L G (qI L fun x G' => x = (if ztu n f g t = true then 1 else 0) ∧ G' = G) := by
  refine Ct.of_X (μ := mX10_isTurn) rfl rfl (by decide) (fun h => by cases h) (Nat.le_of_ble_eq_true rfl) rfl ?_
  refine x_iconst (pc := 0) dX10_isTurn_0 ?_
  refine x_istoren (pc := 1) dX10_isTurn_1 rfl (by decide) rfl ?_
  exact l_Wd_tu h hs hL hF hW hV ht n 0 (by omega) (fun j hj => absurd hj (Nat.not_lt_zero j))
theorem l_Wd_ti {r s n : Nat} {f g : Nat → Nat} {L : List Nat} {G : Nat → Nat → Int} (h : xWd r) (hs : xWd s) (hL : x_SL L) (hF : x_Fin xFL G) (hW : cWd r n f G) (hV : cWd s n g G) :
    ∀ (k t z : Nat), t + k = n → zfnd (ztu n f g) k t = z → X mX10_turnInto 2 0 0 (qI L fun x G' => x = (if z < n then (z : Int) else -1) ∧ G' = G) 24 [some (vR r), some (vR s), some (vI t)] [] L G 0 0 := by
  obtain ⟨w1, w2, w3⟩ := id hW
  intro k
  induction k with
  | zero =>
    intro t z ht hz
    rw [zfnd] at hz
    refine x_iloadn (pc := 24) dX10_turnInto_24 rfl ?_
    refine x_aloadn (pc := 25) dX10_turnInto_25 rfl ?_
    refine x_getI (pc := 26) dX10_turnInto_26 fl_X10_15 (wd_k h).1 (wd_m h hL 0 (by decide)) ?_
    refine x_cge (tgt := 49) (pc := 29) dX10_turnInto_29 (by decide) (by omega) (fun c_29 => ?_) (fun c_29 => ?_)
    rotate_left
    · skip
      exact absurd c_29 (by omega)
    refine x_iconst (pc := 49) dX10_turnInto_49 ?_
    refine x_rI (pc := 50) dX10_turnInto_50 rfl ?_
    exact ⟨by rw [if_neg (by omega)], rfl⟩
  | succ k ih =>
    intro t z ht hz
    rw [zfnd] at hz
    refine x_iloadn (pc := 24) dX10_turnInto_24 rfl ?_
    refine x_aloadn (pc := 25) dX10_turnInto_25 rfl ?_
    refine x_getI (pc := 26) dX10_turnInto_26 fl_X10_15 (wd_k h).1 (wd_m h hL 0 (by decide)) ?_
    refine x_cge (tgt := 49) (pc := 29) dX10_turnInto_29 (by decide) (by omega) (fun c_29 => ?_) (fun c_29 => ?_)
    · skip
      exact absurd c_29 (by omega)
    refine x_aloadn (pc := 32) dX10_turnInto_32 rfl ?_
    refine x_iloadn (pc := 33) dX10_turnInto_33 rfl ?_
    refine x_aloadn (pc := 34) dX10_turnInto_34 rfl ?_
    refine x_cVI (pc := 35) dX10_turnInto_35 lk_X10_47 (c_Wd_tu h hs hL hF hW hV (by omega)) (wd_k h).1 ⟨by decide, rfl⟩ (wd_m h hL 0 (by decide)) (⟨by decide, by decide⟩) (Nat.le_of_ble_eq_true rfl) rfl ?_
    rintro x G' ⟨rfl, rfl⟩
    refine x_ieq (tgt := 43) (pc := 38) dX10_turnInto_38 (by decide) (by split <;> omega) (fun _ => ?_) (fun _ => ?_)
    · skip
      refine x_iinc (pc := 43) dX10_turnInto_43 rfl (by decide) rfl ?_
      refine x_goto (tgt := 24) (pc := 46) dX10_turnInto_46 (by decide) ?_
      rename_i c9
      exact ih (t + 1) z (by omega) (by rw [if_neg (by split at c9; exact absurd c9 (by decide); assumption)] at hz; exact hz)
    · skip
      refine x_iloadn (pc := 41) dX10_turnInto_41 rfl ?_
      refine x_rI (pc := 42) dX10_turnInto_42 rfl ?_
      refine ⟨?_, rfl⟩
      rename_i c9
      rw [if_pos (by split at c9; assumption; exact absurd rfl c9)] at hz
      rw [if_pos (by omega)]; omega
theorem c_Wd_ti {r s n m : Nat} {f g : Nat → Nat} {L : List Nat} {G : Nat → Nat → Int} (h : xWd r) (hs : xWd s) (hL : x_SL L) (hF : x_Fin xFL G) (hW : cWd r n f G) (hV : cWd s m g G) :
    CM yX10_turnInto mX10_turnInto 2 0 0 [vR r, vR s] L G (qI L fun x G' => x = ztd n m f g ∧ G' = G) := by
  have w1 := hW.1
  have w2 := hW.2.1
  have v1 := hV.1
  have v2 := hV.2.1
  refine Ct.of_X (μ := mX10_turnInto) rfl rfl (by decide) (fun h => by cases h) (Nat.le_of_ble_eq_true rfl) rfl ?_
  refine x_aloadn (pc := 0) dX10_turnInto_0 rfl ?_
  refine x_getI (pc := 1) dX10_turnInto_1 fl_X10_15 (wd_k h).1 (wd_m h hL 0 (by decide)) ?_
  refine x_aloadn (pc := 4) dX10_turnInto_4 rfl ?_
  refine x_getI (pc := 5) dX10_turnInto_5 fl_X10_15 (wd_k hs).1 (wd_m hs hL 0 (by decide)) ?_
  refine x_ceq (tgt := 13) (pc := 8) dX10_turnInto_8 (by decide) (by omega) (fun c_8 => ?_) (fun c_8 => ?_)
  · skip
    refine x_aloadn (pc := 13) dX10_turnInto_13 rfl ?_
    refine x_getI (pc := 14) dX10_turnInto_14 fl_X10_15 (wd_k h).1 (wd_m h hL 0 (by decide)) ?_
    refine x_ine (tgt := 22) (pc := 17) dX10_turnInto_17 (by decide) (by omega) (fun c_17 => ?_) (fun c_17 => ?_)
    · skip
      refine x_iconst (pc := 22) dX10_turnInto_22 ?_
      refine x_istoren (pc := 23) dX10_turnInto_23 rfl (by decide) rfl ?_
      have e : n = m := by omega
      subst e
      have hz : ztd n n f g = if zfnd (ztu n f g) n 0 < n then (zfnd (ztu n f g) n 0 : Int) else -1 := by unfold ztd; rw [if_neg (by omega), if_neg (by omega)]
      rw [hz]
      exact l_Wd_ti h hs hL hF hW hV n 0 _ (by omega) rfl
    · skip
      refine x_iconst (pc := 20) dX10_turnInto_20 ?_
      refine x_rI (pc := 21) dX10_turnInto_21 rfl ?_
      exact ⟨by unfold ztd; rw [if_neg (by omega), if_pos (by omega)], rfl⟩
  · skip
    refine x_iconst (pc := 11) dX10_turnInto_11 ?_
    refine x_rI (pc := 12) dX10_turnInto_12 rfl ?_
    exact ⟨by unfold ztd; rw [if_pos (by omega)], rfl⟩

