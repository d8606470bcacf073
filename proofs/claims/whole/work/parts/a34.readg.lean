/-! the class: what a graph tells of itself -/
section XRG
variable {L : List Nat} {G : Nat → Nat → Int}
theorem c_gr_length {n : Int} (hL : x_SL L) (hM : x_GM L) (h : G 173 13 = n) :
    CM yX5_length mX5_length 0 0 0 [vR 173] L G (qI L fun x G' => x = n ∧ G' = G) := by
  refine Ct.of_X (μ := mX5_length) rfl rfl (by decide) (fun h => by cases h) (Nat.le_of_ble_eq_true rfl) rfl ?_
  refine x_aloadn (pc := 0) dX5_length_0 rfl ?_
  refine x_getI (pc := 1) dX5_length_1 fl_X5_57 k_173 (hM 173 (by decide) (by decide)) ?_
  refine x_rI (pc := 4) dX5_length_4 rfl ?_
  exact ⟨h, rfl⟩
theorem c_gr_isSpent {n : Int} (hL : x_SL L) (hM : x_GM L) (h : G 173 15 = n) (hn : n = 0 ∨ n = 1) :
    CM yX5_isSpent mX5_isSpent 0 0 0 [vR 173] L G (qI L fun x G' => x = n ∧ G' = G) := by
  refine Ct.of_X (μ := mX5_isSpent) rfl rfl (by decide) (fun h => by cases h) (Nat.le_of_ble_eq_true rfl) rfl ?_
  refine x_aloadn (pc := 0) dX5_isSpent_0 rfl ?_
  refine x_getZ (pc := 1) dX5_isSpent_1 fl_X5_64 k_173 (hM 173 (by decide) (by decide)) ?_
  refine x_rZ (pc := 4) dX5_isSpent_4 rfl (by omega) ?_
  exact ⟨h, rfl⟩
theorem c_gr_hasAnswer {n : Int} (hL : x_SL L) (hM : x_GM L) (h : G 173 14 = n) (hn : -1 ≤ n ∧ n < 2000) :
    CM yX5_hasAnswer mX5_hasAnswer 0 0 0 [vR 173] L G (qI L fun x G' => x = (if n = -1 then 0 else 1) ∧ G' = G) := by
  refine Ct.of_X (μ := mX5_hasAnswer) rfl rfl (by decide) (fun h => by cases h) (Nat.le_of_ble_eq_true rfl) rfl ?_
  refine x_aloadn (pc := 0) dX5_hasAnswer_0 rfl ?_
  refine x_getI (pc := 1) dX5_hasAnswer_1 fl_X5_61 k_173 (hM 173 (by decide) (by decide)) ?_
  refine x_iconst (pc := 4) dX5_hasAnswer_4 ?_
  refine x_ceq (tgt := 12) (pc := 5) dX5_hasAnswer_5 (by decide) (by omega) (fun c_5 => ?_) (fun c_5 => ?_)
  · skip
    refine x_iconst (pc := 12) dX5_hasAnswer_12 ?_
    refine x_rZ (pc := 13) dX5_hasAnswer_13 rfl (by omega) ?_
    first
    | exact ⟨by rw [if_pos (by omega)], rfl⟩
    | exact ⟨by rw [if_neg (by omega)], rfl⟩
  · skip
    refine x_iconst (pc := 8) dX5_hasAnswer_8 ?_
    refine x_goto (tgt := 13) (pc := 9) dX5_hasAnswer_9 (by decide) ?_
    refine x_rZ (pc := 13) dX5_hasAnswer_13 rfl (by omega) ?_
    first
    | exact ⟨by rw [if_pos (by omega)], rfl⟩
    | exact ⟨by rw [if_neg (by omega)], rfl⟩
theorem zEd_le {s0 : zSt} {D m : Nat} (hl : (zN s0 6000).length ≤ 1500) (hE : zEd s0 D m) : zLe (zN s0 6000).length (ztg s0) (zBd0 s0) 0 := by
  obtain ⟨hB, hc, _⟩ := hE.ch hl
  have h := hc.path (zGr_N hl) hB m (Nat.le_refl _)
  rw [hc.2.1] at h
  exact ⟨m, h⟩
theorem zno_0 {s0 : zSt} (h : zdn (zN s0 6000) = -1) : ∀ t, ¬ zPa (zN s0 6000).length (ztg s0) (zBd0 s0) t 0 := by
  rcases zdn_or (s0 := s0) with ⟨_, hno⟩ | ⟨D, w, _⟩
  · exact fun t => zno_le hno t 0
  · omega
/-- the other equations' records stay -/
def cOth (e : Nat) (G G' : Nat → Nat → Int) : Prop := ∀ e', e' ≠ e → G' 68 e' = G 68 e' ∧ G' 69 e' = G 69 e' ∧ G' 70 e' = G 70 e' ∧ G' 71 e' = G 71 e'
theorem cOth.rf {e : Nat} {G : Nat → Nat → Int} : cOth e G G := fun _ _ => ⟨rfl, rfl, rfl, rfl⟩
theorem cOth.tr {e : Nat} {G G1 G2 : Nat → Nat → Int} (h : cOth e G G1) (k : cOth e G1 G2) : cOth e G G2 := fun e' w => by
  obtain ⟨a1, a2, a3, a4⟩ := h e' w
  obtain ⟨b1, b2, b3, b4⟩ := k e' w
  exact ⟨b1.trans a1, b2.trans a2, b3.trans a3, b4.trans a4⟩
theorem cOth.FR {e : Nat} {S : List Nat} {G G1 G2 : Nat → Nat → Int} (h : cOth e G G1) (k : FR S G1 G2) (h1 : 68 ∉ S) (h2 : 69 ∉ S) (h3 : 70 ∉ S) (h4 : 71 ∉ S) : cOth e G G2 :=
  h.tr (fun e' _ => ⟨by rw [k _ h1], by rw [k _ h2], by rw [k _ h3], by rw [k _ h4]⟩)
theorem cOth.up {e r : Nat} {z : Int} {G G1 : Nat → Nat → Int} (h : cOth e G G1) : cOth e G (x_up G1 r e z) :=
  h.tr (fun e' w => ⟨by simp [x_up, w], by simp [x_up, w], by simp [x_up, w], by simp [x_up, w]⟩)
abbrev z_foC : List Nat := [174, 176, 177, 178, 179, 181, 182, 183, 173, 184, 185, 186, 187, 188, 189, 190, 191, 192, 194, 193, 68, 69, 70, 71]
abbrev z_foS (q : Nat) : List Nat := q :: z_foC
theorem zfo_m {T : List Nat} {q : Nat} (h : ∀ i, i ∈ T → i ∈ z_foC) : ∀ i, i ∈ T → i ∈ z_foS q := fun i hi => List.mem_cons_of_mem _ (h i hi)
end XRG

