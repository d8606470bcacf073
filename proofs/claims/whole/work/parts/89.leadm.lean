/-! the reference: classes of places, told by their least members -/
def mLd (g : Nat → Nat) (G : Nat → Nat → Int) : Prop := ∀ x, x < 35 → ∃ p : Nat, G 146 x = p ∧ p ≤ x ∧ g x ≤ x ∧ g p = g x ∧ (p = x ↔ g x = x) ∧ g (g x) = g x
def mFL (z : Nat → Nat) (G : Nat → Nat → Int) : Prop := ∀ u, u < 4 → G 144 u = z u ∧ z u ≤ 8
def mBg (z : Nat → Nat) (G : Nat → Nat → Int) : Prop := ∀ u, u < 4 → G 145 u = ((zbg z u : Nat) : Int)
section XML
variable {m : Nat} {S : Nat → Nat} {I : Nat → Nat → Nat} {z g : Nat → Nat} {L : List Nat}
theorem l_mo_lead {G : Nat → Nat → Int} {x : Nat} (hL : x_SL L) (hF : x_Fin xFL G) (hU : mLd g G) :
    ∀ (n y : Nat), y < n → y < 35 → g y = g x → X mX12_leadOf 0 0 0 (qI L fun v G' => v = g x ∧ G' = G) 2 [some (vR 127), some (vI x), some (vI y)] [] L G 0 0 := by
  intro n
  induction n with
  | zero => intro y hy; exact absurd hy (Nat.not_lt_zero y)
  | succ n ih =>
    intro y hy h35 hg
    obtain ⟨p, e1, e2, e3, e4, e5, e6⟩ := hU y h35
    refine x_aloadn (pc := 2) dX12_leadOf_2 rfl ?_
    refine x_getR (146) (pc := 3) dX12_leadOf_3 fl_X12_64 k_127 (hL 127 (by decide) (by decide)) (f_127_23 hF) ?_
    refine x_iloadn (pc := 6) dX12_leadOf_6 rfl ?_
    refine x_iald (y) (pc := 7) dX12_leadOf_7 k_146 (hL 146 (by decide) (by decide)) (⟨by omega, by omega, by decide⟩) ?_
    rw [e1]
    refine x_iloadn (pc := 8) dX12_leadOf_8 rfl ?_
    refine x_ceq (tgt := 22) (pc := 9) dX12_leadOf_9 (by decide) (by omega) (fun c_9 => ?_) (fun c_9 => ?_)
    · skip
      refine x_iloadn (pc := 22) dX12_leadOf_22 rfl ?_
      refine x_rI (pc := 23) dX12_leadOf_23 rfl ?_
      exact ⟨by have := e5.mp (by omega); omega, rfl⟩
    · skip
      refine x_aloadn (pc := 12) dX12_leadOf_12 rfl ?_
      refine x_getR (146) (pc := 13) dX12_leadOf_13 fl_X12_64 k_127 (hL 127 (by decide) (by decide)) (f_127_23 hF) ?_
      refine x_iloadn (pc := 16) dX12_leadOf_16 rfl ?_
      refine x_iald (y) (pc := 17) dX12_leadOf_17 k_146 (hL 146 (by decide) (by decide)) (⟨by omega, by omega, by decide⟩) ?_
      rw [e1]
      refine x_istoren (pc := 18) dX12_leadOf_18 rfl (by decide) rfl ?_
      refine x_goto (tgt := 2) (pc := 19) dX12_leadOf_19 (by decide) ?_
      exact ih p (by omega) (by omega) (by rw [e4, hg])
theorem c_mo_leadOf {G : Nat → Nat → Int} {x : Nat} (hL : x_SL L) (hF : x_Fin xFL G) (hU : mLd g G) (hx : x < 35) :
    CM yX12_leadOf mX12_leadOf 0 0 0 [vR 127, vI x] L G (qI L fun v G' => v = g x ∧ G' = G) := by
  refine Ct.of_X (μ := mX12_leadOf) rfl rfl (by decide) (fun h => by cases h) (Nat.le_of_ble_eq_true rfl) rfl ?_
  refine x_iloadn (pc := 0) dX12_leadOf_0 rfl ?_
  refine x_istoren (pc := 1) dX12_leadOf_1 rfl (by decide) rfl ?_
  exact l_mo_lead hL hF hU 36 x (by omega) hx rfl
theorem mLd.join {G : Nat → Nat → Int} {a b : Nat} (h : mLd g G) (ha : a < 35) (hb : b < 35) : mLd (zjf g a b) (x_up G 146 (max (g a) (g b)) ((min (g a) (g b) : Nat) : Int)) := by
  obtain ⟨_, _, _, a3, _, _, a6⟩ := h a ha
  obtain ⟨_, _, _, b3, _, _, b6⟩ := h b hb
  obtain ⟨K, hK⟩ : ∃ K, K = min (g a) (g b) := ⟨_, rfl⟩
  obtain ⟨M, hM⟩ : ∃ K, K = max (g a) (g b) := ⟨_, rfl⟩
  have gK : g K = K := by
    rcases Nat.le_total (g a) (g b) with q | q
    · rw [show K = g a by omega]; exact a6
    · rw [show K = g b by omega]; exact b6
  have gM : g M = M := by
    rcases Nat.le_total (g a) (g b) with q | q
    · rw [show M = g b by omega]; exact b6
    · rw [show M = g a by omega]; exact a6
  have hz : ∀ i, zjf g a b i = if g i = M then K else g i := fun i => by unfold zjf; rw [← hK, ← hM]
  have zK : zjf g a b K = K := by
    rw [hz, gK]
    split <;> rfl
  rw [← hK, ← hM]
  intro x hx
  obtain ⟨p, e1, e2, e3, e4, e5, e6⟩ := h x hx
  by_cases c : x = M
  · subst c
    refine ⟨K, x_up_s, by omega, ?_, ?_, ?_, ?_⟩
    · rw [hz, if_pos gM]; omega
    · rw [zK, hz, if_pos gM]
    · rw [hz, if_pos gM]
    · have : zjf g a b x = K := by rw [hz, if_pos gM]
      rw [this, zK]
  · refine ⟨p, by rw [x_up_k c]; exact e1, e2, ?_, ?_, ?_, ?_⟩
    · exact zjf_le e3
    · rw [hz, hz, e4]
    · rw [hz]
      by_cases d : g x = M
      · rw [if_pos d]; omega
      · rw [if_neg d]; exact e5
    · by_cases d : g x = M
      · have : zjf g a b x = K := by rw [hz, if_pos d]
        rw [this, zK]
      · have : zjf g a b x = g x := by rw [hz, if_neg d]
        rw [this, hz, e6, if_neg d]
theorem c_mo_makeOne {G : Nat → Nat → Int} {x y : Nat} (hL : x_SL L) (hF : x_Fin xFL G) (hU : mLd g G) (hx : x < 35) (hy : y < 35) :
    CM yX12_makeOne mX12_makeOne 1 0 0 [vR 127, vI x, vI y] L G (qV L fun G' => mLd (zjf g x y) G' ∧ FM [146] [] G G' ∧ x_Fin xFL G') := by
  have hJ := hU.join hx hy
  obtain ⟨_, _, _, a3, _, _, a6⟩ := hU x hx
  obtain ⟨_, _, _, b3, _, _, b6⟩ := hU y hy
  refine Ct.of_X (μ := mX12_makeOne) rfl rfl (by decide) (fun h => by cases h) (Nat.le_of_ble_eq_true rfl) rfl ?_
  refine x_aloadn (pc := 0) dX12_makeOne_0 rfl ?_
  refine x_iloadn (pc := 1) dX12_makeOne_1 rfl ?_
  refine x_cVI (pc := 2) dX12_makeOne_2 lk_X12_166 (c_mo_leadOf hL hF hU hx) k_127 ⟨by decide, rfl⟩ (hL 127 (by decide) (by decide)) (⟨by decide, by decide⟩) (Nat.le_of_ble_eq_true rfl) rfl ?_
  rintro x G' ⟨rfl, rfl⟩
  refine x_istoren (pc := 5) dX12_makeOne_5 rfl (by decide) rfl ?_
  refine x_aloadn (pc := 6) dX12_makeOne_6 rfl ?_
  refine x_iloadn (pc := 7) dX12_makeOne_7 rfl ?_
  refine x_cVI (pc := 8) dX12_makeOne_8 lk_X12_166 (c_mo_leadOf hL hF hU hy) k_127 ⟨by decide, rfl⟩ (hL 127 (by decide) (by decide)) (⟨by decide, by decide⟩) (Nat.le_of_ble_eq_true rfl) rfl ?_
  rintro x G' ⟨rfl, rfl⟩
  refine x_istore (pc := 11) dX12_makeOne_11 (by decide) rfl ?_
  refine x_aloadn (pc := 13) dX12_makeOne_13 rfl ?_
  refine x_getR (146) (pc := 14) dX12_makeOne_14 fl_X12_64 k_127 (hL 127 (by decide) (by decide)) (f_127_23 hF) ?_
  refine x_iloadn (pc := 17) dX12_makeOne_17 rfl ?_
  refine x_iload (pc := 18) dX12_makeOne_18 rfl ?_
  refine x_cle (tgt := 27) (pc := 20) dX12_makeOne_20 (by decide) (by omega) (fun c_20 => ?_) (fun c_20 => ?_)
  · skip
    refine x_iload (pc := 27) dX12_makeOne_27 rfl ?_
    refine x_iloadn (pc := 29) dX12_makeOne_29 rfl ?_
    refine x_iload (pc := 30) dX12_makeOne_30 rfl ?_
    refine x_cle (tgt := 40) (pc := 32) dX12_makeOne_32 (by decide) (by omega) (fun c_32 => ?_) (fun c_32 => ?_)
    · skip
      refine x_iloadn (pc := 40) dX12_makeOne_40 rfl ?_
      refine x_iastF (max (g x) (g y)) (pc := 41) dX12_makeOne_41 k_146 (hL 146 (by decide) (by decide)) (⟨by omega, by omega, by decide⟩) hF (fun hF => ?_)
      refine x_rV (pc := 42) dX12_makeOne_42 rfl ?_
      first
      | exact ⟨by rw [show ((min (g x) (g y) : Nat) : Int) = ((g y : Nat) : Int) by omega] at hJ; exact hJ, FM.rf.upA (by decide), hF⟩
      | exact ⟨by rw [show ((min (g x) (g y) : Nat) : Int) = ((g x : Nat) : Int) by omega] at hJ; exact hJ, FM.rf.upA (by decide), hF⟩
    · skip
      refine x_iload (pc := 35) dX12_makeOne_35 rfl ?_
      refine x_goto (tgt := 41) (pc := 37) dX12_makeOne_37 (by decide) ?_
      refine x_iastF (max (g x) (g y)) (pc := 41) dX12_makeOne_41 k_146 (hL 146 (by decide) (by decide)) (⟨by omega, by omega, by decide⟩) hF (fun hF => ?_)
      refine x_rV (pc := 42) dX12_makeOne_42 rfl ?_
      first
      | exact ⟨by rw [show ((min (g x) (g y) : Nat) : Int) = ((g y : Nat) : Int) by omega] at hJ; exact hJ, FM.rf.upA (by decide), hF⟩
      | exact ⟨by rw [show ((min (g x) (g y) : Nat) : Int) = ((g x : Nat) : Int) by omega] at hJ; exact hJ, FM.rf.upA (by decide), hF⟩
  · skip
    refine x_iloadn (pc := 23) dX12_makeOne_23 rfl ?_
    refine x_goto (tgt := 29) (pc := 24) dX12_makeOne_24 (by decide) ?_
    refine x_iloadn (pc := 29) dX12_makeOne_29 rfl ?_
    refine x_iload (pc := 30) dX12_makeOne_30 rfl ?_
    refine x_cle (tgt := 40) (pc := 32) dX12_makeOne_32 (by decide) (by omega) (fun c_32 => ?_) (fun c_32 => ?_)
    · skip
      refine x_iloadn (pc := 40) dX12_makeOne_40 rfl ?_
      refine x_iastF (max (g x) (g y)) (pc := 41) dX12_makeOne_41 k_146 (hL 146 (by decide) (by decide)) (⟨by omega, by omega, by decide⟩) hF (fun hF => ?_)
      refine x_rV (pc := 42) dX12_makeOne_42 rfl ?_
      first
      | exact ⟨by rw [show ((min (g x) (g y) : Nat) : Int) = ((g y : Nat) : Int) by omega] at hJ; exact hJ, FM.rf.upA (by decide), hF⟩
      | exact ⟨by rw [show ((min (g x) (g y) : Nat) : Int) = ((g x : Nat) : Int) by omega] at hJ; exact hJ, FM.rf.upA (by decide), hF⟩
    · skip
      refine x_iload (pc := 35) dX12_makeOne_35 rfl ?_
      refine x_goto (tgt := 41) (pc := 37) dX12_makeOne_37 (by decide) ?_
      refine x_iastF (max (g x) (g y)) (pc := 41) dX12_makeOne_41 k_146 (hL 146 (by decide) (by decide)) (⟨by omega, by omega, by decide⟩) hF (fun hF => ?_)
      refine x_rV (pc := 42) dX12_makeOne_42 rfl ?_
      first
      | exact ⟨by rw [show ((min (g x) (g y) : Nat) : Int) = ((g y : Nat) : Int) by omega] at hJ; exact hJ, FM.rf.upA (by decide), hF⟩
      | exact ⟨by rw [show ((min (g x) (g y) : Nat) : Int) = ((g x : Nat) : Int) by omega] at hJ; exact hJ, FM.rf.upA (by decide), hF⟩
end XML

