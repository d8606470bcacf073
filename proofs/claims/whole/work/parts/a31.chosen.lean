/-! the class: what a chase keeps is read -/
section XCR
variable {L : List Nat} {s0 : zSt}
/-- what is kept of a chase that was not refused -/
def cKp (L : List Nat) (s0 : zSt) (e : Nat) (G : Nat → Nat → Int) : Prop := (zdn (zN s0 6000) = -1 ∧ G 70 e = -1) ∨ ∃ D m, zEd s0 D m ∧ m ≤ 1500 ∧ G 70 e = ((m : Nat) : Int) ∧ (169 + e ∈ L) ∧ G 78 e = ((169 + e : Nat) : Int) ∧ ∀ i, i < m → G (169 + e) i = ((zenc s0 (zcb s0 (zcd (zcb s0) D i)) : Nat) : Int)
theorem k_st {e : Nat} (he : e < 4) : xK (169 + e) = (13, 1500) := by
  rcases (show e = 0 ∨ e = 1 ∨ e = 2 ∨ e = 3 by omega) with rfl | rfl | rfl | rfl <;> decide
theorem c_ch_howManyMet {e : Nat} {x : Int} {G : Nat → Nat → Int} (hL : x_SL L) (hF : x_Fin xFL G) (he : e < 4) (hx : G 69 e = x) :
    CM yX2_howManyMet mX2_howManyMet 1 0 0 [vR 66, vI e] L G (qI L fun y G' => y = x ∧ G' = G) := by
  refine Ct.of_X (μ := mX2_howManyMet) rfl rfl (by decide) (fun h => by cases h) (Nat.le_of_ble_eq_true rfl) rfl ?_
  refine x_iloadn (pc := 0) dX2_howManyMet_0 rfl ?_
  refine x_cSNI (pc := 1) dX2_howManyMet_1 lk_X2_43 (c_ts_none (by omega)) (⟨by decide, by decide⟩) (Nat.le_of_ble_eq_true rfl) rfl ?_
  rintro x G' ⟨rfl, h_G⟩
  obtain rfl := h_G.symm
  refine x_ieq (tgt := 11) (pc := 4) dX2_howManyMet_4 (by decide) (by split <;> omega) (fun c_4 => ?_) (fun c_4 => ?_)
  · skip
    refine x_aloadn (pc := 11) dX2_howManyMet_11 rfl ?_
    refine x_getR (69) (pc := 12) dX2_howManyMet_12 fl_X2_19 k_66 (hL 66 (by decide) (by decide)) (f_66_2 hF) ?_
    refine x_iloadn (pc := 15) dX2_howManyMet_15 rfl ?_
    refine x_iald (e) (pc := 16) dX2_howManyMet_16 k_69 (hL 69 (by decide) (by decide)) (⟨by omega, by omega, by decide⟩) ?_
    refine x_rI (pc := 17) dX2_howManyMet_17 rfl ?_
    first
    | exact ⟨hx, rfl⟩
    | exact absurd c_4 (by split <;> omega)
  · skip
    refine x_iconst (pc := 7) dX2_howManyMet_7 ?_
    refine x_goto (tgt := 17) (pc := 8) dX2_howManyMet_8 (by decide) ?_
    refine x_rI (pc := 17) dX2_howManyMet_17 rfl ?_
    first
    | exact ⟨hx, rfl⟩
    | exact absurd c_4 (by split <;> omega)
theorem c_ch_fewestPuttings {e : Nat} {x : Int} {G : Nat → Nat → Int} (hL : x_SL L) (hF : x_Fin xFL G) (he : e < 4) (hx : G 70 e = x) :
    CM yX2_fewestPuttings mX2_fewestPuttings 1 0 0 [vR 66, vI e] L G (qI L fun y G' => y = x ∧ G' = G) := by
  refine Ct.of_X (μ := mX2_fewestPuttings) rfl rfl (by decide) (fun h => by cases h) (Nat.le_of_ble_eq_true rfl) rfl ?_
  refine x_iloadn (pc := 0) dX2_fewestPuttings_0 rfl ?_
  refine x_cSNI (pc := 1) dX2_fewestPuttings_1 lk_X2_43 (c_ts_none (by omega)) (⟨by decide, by decide⟩) (Nat.le_of_ble_eq_true rfl) rfl ?_
  rintro x G' ⟨rfl, h_G⟩
  obtain rfl := h_G.symm
  refine x_ieq (tgt := 11) (pc := 4) dX2_fewestPuttings_4 (by decide) (by split <;> omega) (fun c_4 => ?_) (fun c_4 => ?_)
  · skip
    refine x_aloadn (pc := 11) dX2_fewestPuttings_11 rfl ?_
    refine x_getR (70) (pc := 12) dX2_fewestPuttings_12 fl_X2_22 k_66 (hL 66 (by decide) (by decide)) (f_66_3 hF) ?_
    refine x_iloadn (pc := 15) dX2_fewestPuttings_15 rfl ?_
    refine x_iald (e) (pc := 16) dX2_fewestPuttings_16 k_70 (hL 70 (by decide) (by decide)) (⟨by omega, by omega, by decide⟩) ?_
    refine x_rI (pc := 17) dX2_fewestPuttings_17 rfl ?_
    first
    | exact ⟨hx, rfl⟩
    | exact absurd c_4 (by split <;> omega)
  · skip
    refine x_iconst (pc := 7) dX2_fewestPuttings_7 ?_
    refine x_goto (tgt := 17) (pc := 8) dX2_fewestPuttings_8 (by decide) ?_
    refine x_rI (pc := 17) dX2_fewestPuttings_17 rfl ?_
    first
    | exact ⟨hx, rfl⟩
    | exact absurd c_4 (by split <;> omega)
theorem c_ch_rings {e : Nat} {x : Int} {G : Nat → Nat → Int} (hL : x_SL L) (hF : x_Fin xFL G) (he : e < 4) (hx : G 71 e = x) :
    CM yX2_ringOrFree mX2_ringOrFree 1 0 0 [vR 66, vI e] L G (qI L fun y G' => y = x ∧ G' = G) := by
  refine Ct.of_X (μ := mX2_ringOrFree) rfl rfl (by decide) (fun h => by cases h) (Nat.le_of_ble_eq_true rfl) rfl ?_
  refine x_iloadn (pc := 0) dX2_ringOrFree_0 rfl ?_
  refine x_cSNI (pc := 1) dX2_ringOrFree_1 lk_X2_43 (c_ts_none (by omega)) (⟨by decide, by decide⟩) (Nat.le_of_ble_eq_true rfl) rfl ?_
  rintro x G' ⟨rfl, h_G⟩
  obtain rfl := h_G.symm
  refine x_ieq (tgt := 11) (pc := 4) dX2_ringOrFree_4 (by decide) (by split <;> omega) (fun c_4 => ?_) (fun c_4 => ?_)
  · skip
    refine x_aloadn (pc := 11) dX2_ringOrFree_11 rfl ?_
    refine x_getR (71) (pc := 12) dX2_ringOrFree_12 fl_X2_25 k_66 (hL 66 (by decide) (by decide)) (f_66_4 hF) ?_
    refine x_iloadn (pc := 15) dX2_ringOrFree_15 rfl ?_
    refine x_iald (e) (pc := 16) dX2_ringOrFree_16 k_71 (hL 71 (by decide) (by decide)) (⟨by omega, by omega, by decide⟩) ?_
    refine x_rI (pc := 17) dX2_ringOrFree_17 rfl ?_
    first
    | exact ⟨hx, rfl⟩
    | exact absurd c_4 (by split <;> omega)
  · skip
    refine x_iconst (pc := 7) dX2_ringOrFree_7 ?_
    refine x_goto (tgt := 17) (pc := 8) dX2_ringOrFree_8 (by decide) ?_
    refine x_rI (pc := 17) dX2_ringOrFree_17 rfl ?_
    first
    | exact ⟨hx, rfl⟩
    | exact absurd c_4 (by split <;> omega)
end XCR

