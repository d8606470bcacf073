/-! the reference -/
def FM (S F : List Nat) (G G' : Nat → Nat → Int) : Prop := ∀ r j, r ∉ S → (r = 127 → j ∉ F) → G' r j = G r j
theorem FM.rf {S F : List Nat} {G : Nat → Nat → Int} : FM S F G G := fun _ _ _ _ => rfl
theorem FM.tr {S F : List Nat} {G G1 G2 : Nat → Nat → Int} (h : FM S F G G1) (k : FM S F G1 G2) : FM S F G G2 := fun r j a c => (k r j a c).trans (h r j a c)
theorem FM.mono {S F S' F' : List Nat} {G G1 : Nat → Nat → Int} (h : FM S F G G1) (k : ∀ i, i ∈ S → i ∈ S') (k2 : ∀ i, i ∈ F → i ∈ F') : FM S' F' G G1 := fun r j a c => h r j (fun q => a (k r q)) (fun e q => c e (k2 j q))
theorem FM.upA {S F : List Nat} {G G1 : Nat → Nat → Int} {r j : Nat} {z : Int} (h : FM S F G G1) (hr : r ∈ S) : FM S F G (x_up G1 r j z) := fun i q a c => by
  have e : x_up G1 r j z i = G1 i := x_up_ne (fun e : i = r => a (by rw [e]; exact hr))
  rw [e]; exact h i q a c
theorem FM.upF {S F : List Nat} {G G1 : Nat → Nat → Int} {j : Nat} {z : Int} (h : FM S F G G1) (hr : j ∈ F) : FM S F G (x_up G1 127 j z) := fun i q a c => by
  by_cases e : i = 127
  · subst e
    rw [x_up_k (fun e2 : q = j => c rfl (by rw [e2]; exact hr))]; exact h _ q a c
  · rw [x_up_ne e]; exact h i q a c
theorem FM.at {S F : List Nat} {G G1 : Nat → Nat → Int} (h : FM S F G G1) (r j : Nat) (a : r ∉ S := by decide) (c : r = 127 → j ∉ F := by decide) : G1 r j = G r j := h r j a c

theorem c_mo_in {v lo hi : Int} {L : List Nat} {G : Nat → Nat → Int} (h : -9223372036854775808 ≤ v ∧ v < 9223372036854775808 ∧ -9223372036854775808 ≤ lo ∧ lo < 9223372036854775808 ∧ -9223372036854775808 ≤ hi ∧ hi < 9223372036854775808) :
    CM yX12_in mX12_in 0 0 0 [vL v, vL lo, vL hi] L G (qI L fun x G' => x = (if lo ≤ v ∧ v ≤ hi then 1 else 0) ∧ G' = G) := by
  refine Ct.of_X (μ := mX12_in) rfl rfl (by decide) (fun h => by cases h) (Nat.le_of_ble_eq_true rfl) rfl ?_
  refine x_lloadn (pc := 0) dX12_in_0 rfl ?_
  refine x_lloadn (pc := 1) dX12_in_1 rfl ?_
  refine x_lcmp (pc := 2) dX12_in_2 (by omega) ?_
  refine x_ilt (tgt := 17) (pc := 3) dX12_in_3 (by decide) (zl_rg) (fun c_3 => ?_) (fun c_3 => ?_)
  · skip
    have c_3 := zl_l c_3
    refine x_iconst (pc := 17) dX12_in_17 ?_
    refine x_rZ (pc := 18) dX12_in_18 rfl (by omega) ?_
    exact ⟨by split <;> omega, rfl⟩
  · skip
    have c_3 := zl_ge c_3
    refine x_lloadn (pc := 6) dX12_in_6 rfl ?_
    refine x_lload (pc := 7) dX12_in_7 rfl ?_
    refine x_lcmp (pc := 9) dX12_in_9 (by omega) ?_
    refine x_igt (tgt := 17) (pc := 10) dX12_in_10 (by decide) (zl_rg) (fun c_10 => ?_) (fun c_10 => ?_)
    · skip
      have c_10 := zl_g c_10
      refine x_iconst (pc := 17) dX12_in_17 ?_
      refine x_rZ (pc := 18) dX12_in_18 rfl (by omega) ?_
      exact ⟨by split <;> omega, rfl⟩
    · skip
      have c_10 := zl_le c_10
      refine x_iconst (pc := 13) dX12_in_13 ?_
      refine x_goto (tgt := 18) (pc := 14) dX12_in_14 (by decide) ?_
      refine x_rZ (pc := 18) dX12_in_18 rfl (by omega) ?_
      exact ⟨by split <;> omega, rfl⟩
theorem c_mo_itemOf {a : Int} {L : List Nat} {G : Nat → Nat → Int} (ha : -2147483648 ≤ a ∧ a < 2147483648) :
    CM yX12_itemOf mX12_itemOf 0 0 0 [vI a] L G (qI L fun x G' => x = zitem a ∧ G' = G) := by
  refine Ct.of_X (μ := mX12_itemOf) rfl rfl (by decide) (fun h => by cases h) (Nat.le_of_ble_eq_true rfl) rfl ?_
  refine x_iloadn (pc := 0) dX12_itemOf_0 rfl ?_
  refine x_bipush (pc := 1) dX12_itemOf_1 (by decide) ?_
  refine x_clt (tgt := 19) (pc := 3) dX12_itemOf_3 (by decide) (by omega) (fun c_3 => ?_) (fun c_3 => ?_)
  · skip
    refine x_iloadn (pc := 19) dX12_itemOf_19 rfl ?_
    refine x_bipush (pc := 20) dX12_itemOf_20 (by decide) ?_
    refine x_clt (tgt := 38) (pc := 22) dX12_itemOf_22 (by decide) (by omega) (fun c_22 => ?_) (fun c_22 => ?_)
    · skip
      refine x_iconst (pc := 38) dX12_itemOf_38 ?_
      refine x_rI (pc := 39) dX12_itemOf_39 rfl ?_
      exact ⟨by unfold zitem; split; omega; split <;> omega, rfl⟩
    · skip
      refine x_iloadn (pc := 25) dX12_itemOf_25 rfl ?_
      refine x_bipush (pc := 26) dX12_itemOf_26 (by decide) ?_
      refine x_cgt (tgt := 38) (pc := 28) dX12_itemOf_28 (by decide) (by omega) (fun c_28 => ?_) (fun c_28 => ?_)
      · skip
        refine x_iconst (pc := 38) dX12_itemOf_38 ?_
        refine x_rI (pc := 39) dX12_itemOf_39 rfl ?_
        exact ⟨by unfold zitem; split; omega; split <;> omega, rfl⟩
      · skip
        refine x_iloadn (pc := 31) dX12_itemOf_31 rfl ?_
        refine x_bipush (pc := 32) dX12_itemOf_32 (by decide) ?_
        refine x_isub (pc := 34) dX12_itemOf_34 ?_
        refine x_goto (tgt := 39) (pc := 35) dX12_itemOf_35 (by decide) ?_
        refine x_rI (pc := 39) dX12_itemOf_39 rfl ?_
        exact ⟨by unfold zitem; split; omega; split <;> omega, rfl⟩
  · skip
    refine x_iloadn (pc := 6) dX12_itemOf_6 rfl ?_
    refine x_bipush (pc := 7) dX12_itemOf_7 (by decide) ?_
    refine x_cgt (tgt := 19) (pc := 9) dX12_itemOf_9 (by decide) (by omega) (fun c_9 => ?_) (fun c_9 => ?_)
    · skip
      refine x_iloadn (pc := 19) dX12_itemOf_19 rfl ?_
      refine x_bipush (pc := 20) dX12_itemOf_20 (by decide) ?_
      refine x_clt (tgt := 38) (pc := 22) dX12_itemOf_22 (by decide) (by omega) (fun c_22 => ?_) (fun c_22 => ?_)
      · skip
        refine x_iconst (pc := 38) dX12_itemOf_38 ?_
        refine x_rI (pc := 39) dX12_itemOf_39 rfl ?_
        exact ⟨by unfold zitem; split; omega; split <;> omega, rfl⟩
      · skip
        refine x_iloadn (pc := 25) dX12_itemOf_25 rfl ?_
        refine x_bipush (pc := 26) dX12_itemOf_26 (by decide) ?_
        refine x_cgt (tgt := 38) (pc := 28) dX12_itemOf_28 (by decide) (by omega) (fun c_28 => ?_) (fun c_28 => ?_)
        · skip
          refine x_iconst (pc := 38) dX12_itemOf_38 ?_
          refine x_rI (pc := 39) dX12_itemOf_39 rfl ?_
          exact ⟨by unfold zitem; split; omega; split <;> omega, rfl⟩
        · skip
          refine x_iloadn (pc := 31) dX12_itemOf_31 rfl ?_
          refine x_bipush (pc := 32) dX12_itemOf_32 (by decide) ?_
          refine x_isub (pc := 34) dX12_itemOf_34 ?_
          refine x_goto (tgt := 39) (pc := 35) dX12_itemOf_35 (by decide) ?_
          refine x_rI (pc := 39) dX12_itemOf_39 rfl ?_
          exact ⟨by unfold zitem; split; omega; split <;> omega, rfl⟩
    · skip
      refine x_iloadn (pc := 12) dX12_itemOf_12 rfl ?_
      refine x_bipush (pc := 13) dX12_itemOf_13 (by decide) ?_
      refine x_isub (pc := 15) dX12_itemOf_15 ?_
      refine x_goto (tgt := 39) (pc := 16) dX12_itemOf_16 (by decide) ?_
      refine x_rI (pc := 39) dX12_itemOf_39 rfl ?_
      exact ⟨by unfold zitem; split; omega; split <;> omega, rfl⟩
theorem c_mo_erase {n : Nat} {b : Nat → Nat} {L : List Nat} {G : Nat → Nat → Int} (hL : x_SL L) (hF : x_Fin xFL G) (hT : mTx n b G) :
    CM yX12_erase mX12_erase 0 0 0 [vR 127] L G (qI L fun x G' => x = n ∧ mTx 0 (fun _ => 0) G' ∧ FM [] [1] G G' ∧ x_Fin xFL G') := by
  refine Ct.of_X (μ := mX12_erase) rfl rfl (by decide) (fun h => by cases h) (Nat.le_of_ble_eq_true rfl) rfl ?_
  refine x_aloadn (pc := 0) dX12_erase_0 rfl ?_
  refine x_getI (pc := 1) dX12_erase_1 fl_X12_137 k_127 (hL 127 (by decide) (by decide)) ?_
  refine x_istoren (pc := 4) dX12_erase_4 rfl (by decide) rfl ?_
  refine x_aloadn (pc := 5) dX12_erase_5 rfl ?_
  refine x_iconst (pc := 6) dX12_erase_6 ?_
  refine x_putIF (pc := 7) dX12_erase_7 fp_X12_137 k_127 (hL 127 (by decide) (by decide)) hF (fun hF => ?_)
  refine x_iloadn (pc := 10) dX12_erase_10 rfl ?_
  refine x_rI (pc := 11) dX12_erase_11 rfl ?_
  exact ⟨hT.1, ⟨x_up_s, by decide, fun i hi => absurd hi (Nat.not_lt_zero i)⟩, FM.rf.upF (by decide), hF⟩
theorem l_mo_write {N m : Nat} {w : Int} {b : Nat → Nat} {L : List Nat} {G0 : Nat → Nat → Int} (hL : x_SL L) (hw : -9223372036854775808 ≤ w ∧ w < 9223372036854775808) (hm : m ≤ 8) (hN : N + m ≤ 100) : ∀ (k i : Nat) (G : Nat → Nat → Int), i + k = m → mTx (N + i) (fun q => if q < N then b q else byt w (q - N)) G → FM [128] [1] G0 G → x_Fin xFL G →
    X mX12_write 1 0 0 (qI L fun x G' => x = ((N + m : Nat) : Int) ∧ mTx (N + m) (fun q => if q < N then b q else byt w (q - N)) G' ∧ FM [128] [1] G0 G' ∧ x_Fin xFL G') 32 [some (vR 127), some (vL w), none, some (vI m), some (vI i)] [] L G 0 0 := by
  intro k
  induction k with
  | zero =>
    intro i G hi hT hR hF
    have hi : i = m := by omega
    subst hi
    refine x_iload (pc := 32) dX12_write_32 rfl ?_
    refine x_iloadn (pc := 34) dX12_write_34 rfl ?_
    refine x_cge (tgt := 75) (pc := 35) dX12_write_35 (by decide) (by omega) (fun c_35 => ?_) (fun c_35 => ?_)
    rotate_left
    · skip
      exact absurd c_35 (by omega)
    refine x_aloadn (pc := 75) dX12_write_75 rfl ?_
    refine x_getI (pc := 76) dX12_write_76 fl_X12_137 k_127 (hL 127 (by decide) (by decide)) ?_
    refine x_rI (pc := 79) dX12_write_79 rfl ?_
    exact ⟨hT.1, hT, hR, hF⟩
  | succ k ih =>
    intro i G hi hT hR hF
    have hT0 := hT
    obtain ⟨h1, h2, h3⟩ := hT
    refine x_iload (pc := 32) dX12_write_32 rfl ?_
    refine x_iloadn (pc := 34) dX12_write_34 rfl ?_
    refine x_cge (tgt := 75) (pc := 35) dX12_write_35 (by decide) (by omega) (fun c_35 => ?_) (fun c_35 => ?_)
    · skip
      exact absurd c_35 (by omega)
    refine x_aloadn (pc := 38) dX12_write_38 rfl ?_
    refine x_getR (128) (pc := 39) dX12_write_39 fl_X12_7 k_127 (hL 127 (by decide) (by decide)) (f_127_0 hF) ?_
    refine x_aloadn (pc := 42) dX12_write_42 rfl ?_
    refine x_getI (pc := 43) dX12_write_43 fl_X12_137 k_127 (hL 127 (by decide) (by decide)) ?_
    refine x_lloadn (pc := 46) dX12_write_46 rfl ?_
    refine x_bipush (pc := 47) dX12_write_47 (by decide) ?_
    refine x_iload (pc := 49) dX12_write_49 rfl ?_
    refine x_imul (pc := 51) dX12_write_51 ?_
    refine x_lshr (pc := 52) dX12_write_52 (8 * i) (by omega) (by omega) (by omega) ?_
    refine x_ldc2 (pc := 53) dX12_write_53 co_X12_141 ?_
    refine x_landm (pc := 56) dX12_write_56 8 256 (by decide) (by decide) (by decide) ?_
    rw [byt_eq]
    refine x_l2i (pc := 57) dX12_write_57 ?_
    refine x_iastF (N + i) (pc := 58) dX12_write_58 k_128 (hL 128 (by decide) (by decide)) (⟨by omega, by omega, by decide⟩) hF (fun hF => ?_)
    refine x_aloadn (pc := 59) dX12_write_59 rfl ?_
    refine x_dup (pc := 60) dX12_write_60 (by decide) ?_
    refine x_getI (pc := 61) dX12_write_61 fl_X12_137 k_127 (hL 127 (by decide) (by decide)) ?_
    refine x_iconst (pc := 64) dX12_write_64 ?_
    refine x_iadd (pc := 65) dX12_write_65 ?_
    refine x_putIF (pc := 66) dX12_write_66 fp_X12_137 k_127 (hL 127 (by decide) (by decide)) hF (fun hF => ?_)
    refine x_iinc (pc := 69) dX12_write_69 rfl (by decide) rfl ?_
    refine x_goto (tgt := 32) (pc := 72) dX12_write_72 (by decide) ?_
    refine ih (i + 1) _ (by omega) ⟨?_, by omega, fun q hq => ?_⟩ ((hR.upA (by decide)).upF (by decide)) hF
    · rw [x_up_s, x_up_ne (by decide), h1]; rfl
    · rw [x_up_ne (by decide)]
      by_cases c : q = N + i
      · subst c
        rw [x_up_s]
        have e1 : (if N + i < N then b (N + i) else byt w (N + i - N)) = byt w i := by rw [if_neg (by omega), Nat.add_sub_cancel_left]
        exact ⟨congrArg _ e1.symm, by show (if N + i < N then b (N + i) else byt w (N + i - N)) < 256; rw [e1]; exact byt_lt w i⟩
      · rw [x_up_k c]; exact h3 q (by omega)
theorem c_mo_write {N : Nat} {w a : Int} {b : Nat → Nat} {L : List Nat} {G : Nat → Nat → Int} (hL : x_SL L) (hF : x_Fin xFL G) (hT : mTx N b G) (hw : -9223372036854775808 ≤ w ∧ w < 9223372036854775808) (ha : -2147483648 ≤ a ∧ a < 2147483648) :
    CM yX12_write mX12_write 1 0 0 [vR 127, vL w, vI a] L G (qI L fun x G' => (¬ (1 ≤ a ∧ a ≤ 8) ∧ x = -3 ∧ G' = G) ∨ ((1 ≤ a ∧ a ≤ 8) ∧ 100 < N + a ∧ x = -5 ∧ G' = G) ∨ ((1 ≤ a ∧ a ≤ 8) ∧ N + a ≤ 100 ∧ x = N + a ∧ mTx (N + a.toNat) (fun q => if q < N then b q else byt w (q - N)) G' ∧ FM [128] [1] G G' ∧ x_Fin xFL G')) := by
  obtain ⟨h1, h2, h3⟩ := id hT
  refine Ct.of_X (μ := mX12_write) rfl rfl (by decide) (fun h => by cases h) (Nat.le_of_ble_eq_true rfl) rfl ?_
  refine x_iloadn (pc := 0) dX12_write_0 rfl ?_
  refine x_i2l (pc := 1) dX12_write_1 (by omega) ?_
  refine x_lconst (x := 1) (pc := 2) dX12_write_2 (by decide) ?_
  refine x_ldc2 (pc := 3) dX12_write_3 co_X12_135 ?_
  refine x_cSI (pc := 6) dX12_write_6 lk_X12_131 (c_mo_in (by omega)) (⟨by decide, by decide⟩) (Nat.le_of_ble_eq_true rfl) rfl ?_
  rintro x G' ⟨rfl, rfl⟩
  refine x_ine (tgt := 15) (pc := 9) dX12_write_9 (by decide) (by split <;> omega) (fun c_9 => ?_) (fun c_9 => ?_)
  · skip
    refine x_aloadn (pc := 15) dX12_write_15 rfl ?_
    refine x_getI (pc := 16) dX12_write_16 fl_X12_137 k_127 (hL 127 (by decide) (by decide)) ?_
    refine x_iloadn (pc := 19) dX12_write_19 rfl ?_
    refine x_iadd (pc := 20) dX12_write_20 ?_
    refine x_bipush (pc := 21) dX12_write_21 (by decide) ?_
    refine x_cle (tgt := 29) (pc := 23) dX12_write_23 (by decide) (by split at c_9 <;> omega) (fun c_23 => ?_) (fun c_23 => ?_)
    · skip
      refine x_iconst (pc := 29) dX12_write_29 ?_
      refine x_istore (pc := 30) dX12_write_30 (by decide) rfl ?_
      have ha2 : 1 ≤ a ∧ a ≤ 8 := by split at c_9 <;> omega
      obtain ⟨m, rfl⟩ : ∃ m : Nat, a = m := ⟨a.toNat, by omega⟩
      refine X.imp (fun v L' G' hq => ?_) (l_mo_write hL hw (by omega) (by omega) m 0 G' (by omega) (mTx_cg hT (fun q hq => by rw [if_pos (by omega)])) FM.rf hF)
      obtain ⟨e1, x, e2, e3, e4⟩ := hq
      exact ⟨e1, x, e2, Or.inr (Or.inr ⟨by omega, by omega, by omega, by rw [Int.toNat_natCast]; exact e4⟩)⟩
    · skip
      refine x_bipush (pc := 26) dX12_write_26 (by decide) ?_
      refine x_rI (pc := 28) dX12_write_28 rfl ?_
      exact Or.inr (Or.inl ⟨by split at c_9 <;> omega, by omega, rfl, rfl⟩)
  · skip
    refine x_bipush (pc := 12) dX12_write_12 (by decide) ?_
    refine x_rI (pc := 14) dX12_write_14 rfl ?_
    exact Or.inl ⟨by split at c_9 <;> omega, rfl, rfl⟩

