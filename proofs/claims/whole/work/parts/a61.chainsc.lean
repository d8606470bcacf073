/-! the class's calls: met, fewest, ring, putting, found -/
section XC1
variable {L : List Nat} {S : Nat → Nat} {I : Nat → Nat → Nat} {m : Nat}
def pChC (L : List Nat) (G0 : Nat → Nat → Int) (m : Nat) (S : Nat → Nat) (I : Nat → Nat → Nat) (e0 : Int) (lv : Prop) (P : Int → Prop) : x_Q := fun v L' G' => (∃ x, v = some (vI x) ∧ P x) ∧ x_gr L L' ∧ cCh L' m S I G' ∧ FR z_fT G0 G' ∧ x_Fin xFL G' ∧ ∀ e : Nat, e0 = ((e : Nat) : Int) → e < m → lv → (zbad S I e ∨ G0 67 e = 1) ∨ (169 + e ∈ L' ∧ 173 ∈ L')
abbrev zCap (L : List Nat) (G : Nat → Nat → Int) (m : Nat) (S : Nat → Nat) (I : Nat → Nat → Nat) (e0 : Int) (lv : Prop) (mc ms : Nat) : Prop := ∀ e : Nat, e0 = ((e : Nat) : Int) → e < m → lv → zbad S I e ∨ G 67 e = 1 ∨ (fC L e ≤ mc ∧ fS L e ≤ ms)
section XC2
variable {μ : x_M} {d mc ms : Nat} {Q : x_Q} {pc : Nat} {ls : List (Option (Nat × Int))} {st : List (Nat × Int)} {G : Nat → Nat → Int} {e : Nat}
theorem x_fol {idx : Nat} (hL : x_SL L) (hF : x_Fin xFL G) (hE : cEq m S I G) (he : e < m) (hC : cCh L m S I G) (hcap : zbad S I e ∨ G 67 e = 1 ∨ (fC L e ≤ mc ∧ fS L e ≤ ms)) (hd : decode (x_cc μ) pc = .ok (.invokevirtual idx, 3)) (hlk : x_lkV (x_own μ) idx yX2_follow cX2_follow 4 (some .int) 2) (hdd : 7 ≤ d) (hw : x_cats st ≤ 8)
    (kk : ∀ x L' G', x_SL L' → zFO L L' G m S I e x G' → X μ d mc ms Q (pc + 3) ls (vI x :: st) L' G' (0 + mc) (0 + ms)) : X μ d mc ms Q pc ls (vI e :: vR 4 :: vR 66 :: st) L G 0 0 := by
  refine x_callV (as := [vR 4, vI e]) hd hlk (c_ch_follow (mc := mc) (ms := ms) hL hF hE he hC hcap) k_66 ⟨by decide, rfl⟩ (hL 66 (by decide) (by decide)) ⟨hdd, by decide⟩ ⟨by omega, by omega⟩ hw rfl ?_
  rintro v L' G' ⟨x, rfl, h⟩ hs
  exact kk x L' G' (fun i i1 i2 => hs i (hL i i1 i2)) h
end XC2
theorem zFO.bd {L' : List Nat} {e : Nat} {x : Int} {G G' : Nat → Nat → Int} (h : zFO L L' G m S I e x G') : x = -4 ∨ x = -6 ∨ x = 0 := by
  rcases h.2.2.1 with ⟨_, w⟩ | ⟨_, ⟨_, w, _⟩ | ⟨_, w, _⟩⟩
  · exact Or.inl w
  · exact Or.inr (Or.inl w)
  · exact Or.inr (Or.inr w)
theorem zFO.no {L' : List Nat} {e : Nat} {x : Int} {P : Nat → Int → Prop} {G G' : Nat → Nat → Int} (h : zFO L L' G m S I e x G') (he : e < m) (hx : x ≠ 0) : zCP m S I P ((e : Nat) : Int) x := by
  refine Or.inr ⟨e, rfl, he, ?_⟩
  rcases h.2.2.1 with ⟨w1, w⟩ | ⟨w1, ⟨w2, w, _⟩ | ⟨_, w, _⟩⟩
  · exact Or.inl ⟨w1, w⟩
  · exact Or.inr ⟨w1, Or.inl ⟨w2, w⟩⟩
  · exact absurd w hx
theorem zFO.ok {L' : List Nat} {e : Nat} {x : Int} {G G' : Nat → Nat → Int} (h : zFO L L' G m S I e x G') (hx : x = 0) : ¬ zbad S I e ∧ (zN (zsk (zs0 S I e)) 6000).length ≤ 1500 ∧ G' 69 e = (((zN (zsk (zs0 S I e)) 6000).length : Nat) : Int) ∧ cKp L' (zsk (zs0 S I e)) e G' ∧ zRiP S I e (G' 71 e) := by
  rcases h.2.2.1 with ⟨w1, w⟩ | ⟨w1, ⟨w2, w, _⟩ | ⟨w2, w, _, w3, w4, w5⟩⟩
  · omega
  · omega
  · exact ⟨w1, w2, w3, w4, w5⟩
theorem zCP_ok {e : Nat} {x : Int} {P : Nat → Int → Prop} (he : e < m) (hb : ¬ zbad S I e) (hl : (zN (zsk (zs0 S I e)) 6000).length ≤ 1500) (hP : P e x) : zCP m S I P ((e : Nat) : Int) x := Or.inr ⟨e, rfl, he, Or.inr ⟨hb, Or.inr ⟨hl, hP⟩⟩⟩
theorem zCP_2 {e0 : Int} {P : Nat → Int → Prop} (h : ¬ (0 ≤ e0 ∧ e0 < m)) : zCP m S I P e0 (-2) := Or.inl ⟨h, rfl⟩
theorem zFO.pC {L' : List Nat} {e : Nat} {x y : Int} {lv : Prop} {P : Int → Prop} {G G' : Nat → Nat → Int} (h : zFO L L' G m S I e x G') (hP : P y) : pChC L G m S I ((e : Nat) : Int) lv P (some (vI y)) L' G' := ⟨⟨y, rfl, hP⟩, h.1, h.2.1, h.2.2.2.1, h.2.2.2.2.1, fun e' h1 _ _ => by
  have : e' = e := by omega
  subst this
  exact h.2.2.2.2.2⟩
theorem pCh_no {e0 y : Int} {lv : Prop} {P : Int → Prop} {G : Nat → Nat → Int} (hC : cCh L m S I G) (hF : x_Fin xFL G) (hn : ¬ ((0 ≤ e0 ∧ e0 < m) ∧ lv)) (hP : P y) : pChC L G m S I e0 lv P (some (vI y)) L G := ⟨⟨y, rfl, hP⟩, x_gr.rf, hC, FR.rf, hF, fun e h1 h2 h3 => absurd ⟨⟨by omega, by omega⟩, h3⟩ hn⟩
theorem zFwP_of {e : Nat} {L' : List Nat} {G' : Nat → Nat → Int} (hl : (zN (zsk (zs0 S I e)) 6000).length ≤ 1500) (h : cKp L' (zsk (zs0 S I e)) e G') : zFwP S I e (G' 70 e) := by
  rcases h with ⟨h1, h2⟩ | ⟨D, k, hE, _, h2, _⟩
  · exact Or.inl ⟨h2, zno_0 h1⟩
  · rw [h2]
    obtain ⟨hB, c1, c2⟩ := hE.ch hl
    have hd := c1.di (zGr_N hl) hB (fun x _ hx => zBd0_u hx hB) (Nat.le_refl _)
    rw [c1.2.1] at hd
    exact hd
theorem zvS_e {e : Nat} {G : Nat → Nat → Int} (hE : cEq m S I G) (he : e < m) (hb : ¬ zbad S I e) : zvS (zsk (zs0 S I e)) := by
  have hs1 := hE.2.2 (2 * e) (by omega)
  have hs2 := hE.2.2 (2 * e + 1) (by omega)
  exact zs0_v ⟨hs1.2.1, fun j hj => (hs1.2.2.1 j hj).2⟩ ⟨hs2.2.1, fun j hj => (hs2.2.2.1 j hj).2⟩ hb
theorem z_chw {G G' : Nat → Nat → Int} (h : cCh L m S I G) (k : FR z_cwS G G') : cCh L m S I G' := by
  have nn : ∀ i, i ∉ z_cwS → G' i = G i := k
  refine ⟨fun e he => ⟨?_, ?_⟩, ?_⟩
  · rcases (h.1 e he).1 with c | ⟨c1, c2, c3⟩
    · exact Or.inl (by rw [nn 67 (by decide)]; exact c)
    · refine Or.inr ⟨by rw [nn 67 (by decide)]; exact c1, c2, ?_⟩
      rcases c3 with ⟨d1, d2⟩ | ⟨d1, d2⟩
      · exact Or.inl ⟨d1, by rw [nn 68 (by decide)]; exact d2⟩
      · refine Or.inr ⟨d1, ?_⟩
        rw [nn 68 (by decide)]
        refine d2.cg (fun _ w => w) (by rw [nn 68 (by decide)]) (by rw [nn 69 (by decide)]) (by rw [nn 70 (by decide)]) (by rw [nn 71 (by decide)]) (by rw [nn 78 (by decide)]) (fun i => ?_)
        rw [nn (169 + e) (by simp only [List.mem_cons, List.not_mem_nil, or_false]; omega)]
  · rcases (h.1 e he).2 with c | c
    · exact Or.inl ⟨by rw [nn 78 (by decide)]; exact c.1, c.2⟩
    · exact Or.inr ⟨by rw [nn 78 (by decide)]; exact c.1, c.2⟩
  · rcases h.2 with ⟨c1, c2, c3⟩ | ⟨c1, c2⟩
    · refine Or.inl ⟨by rw [nn 66 (by decide)]; exact c1, c2, fun t ht => ?_⟩
      have hall : ∀ t ∈ xGL, t.1 ∉ z_cwS := by decide
      rw [nn t.1 (hall t ht)]
      exact c3 t ht
    · exact Or.inr ⟨by rw [nn 66 (by decide)]; exact c1, c2⟩
theorem l_ts_met {mc ms k n e : Nat} {x : Int} {o2 : Option (Nat × Int)} {L0 : List Nat} {G0 G : Nat → Nat → Int} (hL : x_SL L) (he : e < m) (hm4 : m ≤ 4) (fo : zFO L0 L G0 m S I e x G) :
    X mX11_met 7 mc ms (pChC L0 G0 m S I ((e : Nat) : Int) True (zCP m S I (zMtP S I) ((e : Nat) : Int))) 26 [some (vR 1), some (vI e), o2] [vI x] L G k n := by
  have hF := fo.2.2.2.2.1
  have hx := fo.bd
  refine x_istoren (pc := 26) dX11_met_26 rfl (by decide) rfl ?_
  refine x_iloadn (pc := 27) dX11_met_27 rfl ?_
  refine x_ieq (tgt := 35) (pc := 28) dX11_met_28 (by decide) (by rcases hx with rfl | rfl | rfl <;> decide) (fun c_28 => ?_) (fun c_28 => ?_)
  · skip
    obtain ⟨hb, hl, hm9, hK, hr⟩ := fo.ok c_28
    refine x_aloadn (pc := 35) dX11_met_35 rfl ?_
    refine x_getR (66) (pc := 36) dX11_met_36 fl_X11_33 k_1 (hL 1 (by decide) (by decide)) (f_1_3 hF) ?_
    refine x_iloadn (pc := 39) dX11_met_39 rfl ?_
    refine x_cVI (pc := 40) dX11_met_40 lk_X11_148 (c_ch_howManyMet (x := (((zN (zsk (zs0 S I e)) 6000).length : Nat) : Int)) hL hF (show e < 4 by omega) hm9) k_66 ⟨by decide, rfl⟩ (hL 66 (by decide) (by decide)) (⟨by decide, by decide⟩) (Nat.le_of_ble_eq_true rfl) rfl ?_
    rintro x G' ⟨rfl, h_G⟩
    obtain rfl := h_G.symm
    have hz := zCP_ok (P := zMtP S I) (x := (((zN (zsk (zs0 S I e)) 6000).length : Nat) : Int)) he hb hl rfl
    exact x_iret dX11_met_43 rfl (fo.pC hz)
  · skip
    have hz := fo.no (P := zMtP S I) he c_28
    refine x_iloadn (pc := 31) dX11_met_31 rfl ?_
    refine x_goto (tgt := 43) (pc := 32) dX11_met_32 (by decide) ?_
    exact x_iret dX11_met_43 rfl (fo.pC hz)
theorem c_ts_met {mc ms : Nat} {e0 : Int} {G : Nat → Nat → Int} (hL : x_SL L) (hF : x_Fin xFL G) (hE : cEq m S I G) (hC : cCh L m S I G) (he0 : -2147483648 ≤ e0 ∧ e0 < 2147483648) (hcap : zCap L G m S I e0 True mc ms) :
    CM yX11_met mX11_met 7 mc ms [vR 1, vI e0] L G (pChC L G m S I e0 True (zCP m S I (zMtP S I) e0)) := by
  have hm4 := hE.2.1
  refine Ct.of_X (μ := mX11_met) rfl rfl (by decide) (fun h => by cases h) (Nat.le_of_ble_eq_true rfl) rfl ?_
  by_cases g : 0 ≤ e0 ∧ e0 < m
  · obtain ⟨e, rfl⟩ : ∃ e : Nat, e0 = ((e : Nat) : Int) := ⟨e0.toNat, by omega⟩
    refine x_aloadn (pc := 0) dX11_met_0 rfl ?_
    refine x_getR (4) (pc := 1) dX11_met_1 fl_X11_19 k_1 (hL 1 (by decide) (by decide)) (f_1_1 hF) ?_
    refine x_iloadn (pc := 4) dX11_met_4 rfl ?_
    refine x_cVI (pc := 5) dX11_met_5 lk_X11_94 (c_Eq_has hL hE he0) k_4 ⟨by decide, rfl⟩ (hL 4 (by decide) (by decide)) (⟨by decide, by decide⟩) (Nat.le_of_ble_eq_true rfl) rfl ?_
    rintro x G' ⟨rfl, h_G⟩
    obtain rfl := h_G.symm
    refine x_ine (tgt := 14) (pc := 8) dX11_met_8 (by decide) (by split <;> omega) (fun c_8 => ?_) (fun c_8 => ?_)
    rotate_left
    · skip
      exact absurd c_8 (by rw [if_pos g]; decide)
    refine x_aloadn (pc := 14) dX11_met_14 rfl ?_
    refine x_getR (66) (pc := 15) dX11_met_15 fl_X11_33 k_1 (hL 1 (by decide) (by decide)) (f_1_3 hF) ?_
    refine x_aloadn (pc := 18) dX11_met_18 rfl ?_
    refine x_getR (4) (pc := 19) dX11_met_19 fl_X11_19 k_1 (hL 1 (by decide) (by decide)) (f_1_1 hF) ?_
    refine x_iloadn (pc := 22) dX11_met_22 rfl ?_
    refine x_fol hL hF hE (by omega) hC (hcap e rfl (by omega) trivial) dX11_met_23 lk_X11_144 (by decide) (Nat.le_of_ble_eq_true rfl) (fun x L' G' hL fo => ?_)
    exact l_ts_met hL (by omega) hm4 fo
  · skip
    refine x_aloadn (pc := 0) dX11_met_0 rfl ?_
    refine x_getR (4) (pc := 1) dX11_met_1 fl_X11_19 k_1 (hL 1 (by decide) (by decide)) (f_1_1 hF) ?_
    refine x_iloadn (pc := 4) dX11_met_4 rfl ?_
    refine x_cVI (pc := 5) dX11_met_5 lk_X11_94 (c_Eq_has hL hE he0) k_4 ⟨by decide, rfl⟩ (hL 4 (by decide) (by decide)) (⟨by decide, by decide⟩) (Nat.le_of_ble_eq_true rfl) rfl ?_
    rintro x G' ⟨rfl, h_G⟩
    obtain rfl := h_G.symm
    refine x_ine (tgt := 14) (pc := 8) dX11_met_8 (by decide) (by split <;> omega) (fun c_8 => ?_) (fun c_8 => ?_)
    · skip
      exact absurd (if_neg g) c_8
    refine x_bipush (pc := 11) dX11_met_11 (by decide) ?_
    exact x_iret dX11_met_13 rfl (pCh_no hC hF (fun w => g w.1) (zCP_2 g))

theorem l_ts_fewest {mc ms k n e : Nat} {x : Int} {o2 : Option (Nat × Int)} {L0 : List Nat} {G0 G : Nat → Nat → Int} (hL : x_SL L) (he : e < m) (hm4 : m ≤ 4) (fo : zFO L0 L G0 m S I e x G) :
    X mX11_fewest 7 mc ms (pChC L0 G0 m S I ((e : Nat) : Int) True (zCP m S I (zFwP S I) ((e : Nat) : Int))) 26 [some (vR 1), some (vI e), o2] [vI x] L G k n := by
  have hF := fo.2.2.2.2.1
  have hx := fo.bd
  refine x_istoren (pc := 26) dX11_fewest_26 rfl (by decide) rfl ?_
  refine x_iloadn (pc := 27) dX11_fewest_27 rfl ?_
  refine x_ieq (tgt := 35) (pc := 28) dX11_fewest_28 (by decide) (by rcases hx with rfl | rfl | rfl <;> decide) (fun c_28 => ?_) (fun c_28 => ?_)
  · skip
    obtain ⟨hb, hl, hm9, hK, hr⟩ := fo.ok c_28
    refine x_aloadn (pc := 35) dX11_fewest_35 rfl ?_
    refine x_getR (66) (pc := 36) dX11_fewest_36 fl_X11_33 k_1 (hL 1 (by decide) (by decide)) (f_1_3 hF) ?_
    refine x_iloadn (pc := 39) dX11_fewest_39 rfl ?_
    refine x_cVI (pc := 40) dX11_fewest_40 lk_X11_151 (c_ch_fewestPuttings (x := _) hL hF (show e < 4 by omega) rfl) k_66 ⟨by decide, rfl⟩ (hL 66 (by decide) (by decide)) (⟨by decide, by decide⟩) (Nat.le_of_ble_eq_true rfl) rfl ?_
    rintro x G' ⟨rfl, h_G⟩
    obtain rfl := h_G.symm
    have hz := zCP_ok (P := zFwP S I) (x := G 70 e) he hb hl (zFwP_of hl hK)
    exact x_iret dX11_fewest_43 rfl (fo.pC hz)
  · skip
    have hz := fo.no (P := zFwP S I) he c_28
    refine x_iloadn (pc := 31) dX11_fewest_31 rfl ?_
    refine x_goto (tgt := 43) (pc := 32) dX11_fewest_32 (by decide) ?_
    exact x_iret dX11_fewest_43 rfl (fo.pC hz)
theorem c_ts_fewest {mc ms : Nat} {e0 : Int} {G : Nat → Nat → Int} (hL : x_SL L) (hF : x_Fin xFL G) (hE : cEq m S I G) (hC : cCh L m S I G) (he0 : -2147483648 ≤ e0 ∧ e0 < 2147483648) (hcap : zCap L G m S I e0 True mc ms) :
    CM yX11_fewest mX11_fewest 7 mc ms [vR 1, vI e0] L G (pChC L G m S I e0 True (zCP m S I (zFwP S I) e0)) := by
  have hm4 := hE.2.1
  refine Ct.of_X (μ := mX11_fewest) rfl rfl (by decide) (fun h => by cases h) (Nat.le_of_ble_eq_true rfl) rfl ?_
  by_cases g : 0 ≤ e0 ∧ e0 < m
  · obtain ⟨e, rfl⟩ : ∃ e : Nat, e0 = ((e : Nat) : Int) := ⟨e0.toNat, by omega⟩
    refine x_aloadn (pc := 0) dX11_fewest_0 rfl ?_
    refine x_getR (4) (pc := 1) dX11_fewest_1 fl_X11_19 k_1 (hL 1 (by decide) (by decide)) (f_1_1 hF) ?_
    refine x_iloadn (pc := 4) dX11_fewest_4 rfl ?_
    refine x_cVI (pc := 5) dX11_fewest_5 lk_X11_94 (c_Eq_has hL hE he0) k_4 ⟨by decide, rfl⟩ (hL 4 (by decide) (by decide)) (⟨by decide, by decide⟩) (Nat.le_of_ble_eq_true rfl) rfl ?_
    rintro x G' ⟨rfl, h_G⟩
    obtain rfl := h_G.symm
    refine x_ine (tgt := 14) (pc := 8) dX11_fewest_8 (by decide) (by split <;> omega) (fun c_8 => ?_) (fun c_8 => ?_)
    rotate_left
    · skip
      exact absurd c_8 (by rw [if_pos g]; decide)
    refine x_aloadn (pc := 14) dX11_fewest_14 rfl ?_
    refine x_getR (66) (pc := 15) dX11_fewest_15 fl_X11_33 k_1 (hL 1 (by decide) (by decide)) (f_1_3 hF) ?_
    refine x_aloadn (pc := 18) dX11_fewest_18 rfl ?_
    refine x_getR (4) (pc := 19) dX11_fewest_19 fl_X11_19 k_1 (hL 1 (by decide) (by decide)) (f_1_1 hF) ?_
    refine x_iloadn (pc := 22) dX11_fewest_22 rfl ?_
    refine x_fol hL hF hE (by omega) hC (hcap e rfl (by omega) trivial) dX11_fewest_23 lk_X11_144 (by decide) (Nat.le_of_ble_eq_true rfl) (fun x L' G' hL fo => ?_)
    exact l_ts_fewest hL (by omega) hm4 fo
  · skip
    refine x_aloadn (pc := 0) dX11_fewest_0 rfl ?_
    refine x_getR (4) (pc := 1) dX11_fewest_1 fl_X11_19 k_1 (hL 1 (by decide) (by decide)) (f_1_1 hF) ?_
    refine x_iloadn (pc := 4) dX11_fewest_4 rfl ?_
    refine x_cVI (pc := 5) dX11_fewest_5 lk_X11_94 (c_Eq_has hL hE he0) k_4 ⟨by decide, rfl⟩ (hL 4 (by decide) (by decide)) (⟨by decide, by decide⟩) (Nat.le_of_ble_eq_true rfl) rfl ?_
    rintro x G' ⟨rfl, h_G⟩
    obtain rfl := h_G.symm
    refine x_ine (tgt := 14) (pc := 8) dX11_fewest_8 (by decide) (by split <;> omega) (fun c_8 => ?_) (fun c_8 => ?_)
    · skip
      exact absurd (if_neg g) c_8
    refine x_bipush (pc := 11) dX11_fewest_11 (by decide) ?_
    exact x_iret dX11_fewest_13 rfl (pCh_no hC hF (fun w => g w.1) (zCP_2 g))

theorem l_ts_ring {mc ms k n e : Nat} {x : Int} {o2 : Option (Nat × Int)} {L0 : List Nat} {G0 G : Nat → Nat → Int} (hL : x_SL L) (he : e < m) (hm4 : m ≤ 4) (fo : zFO L0 L G0 m S I e x G) :
    X mX11_ring 7 mc ms (pChC L0 G0 m S I ((e : Nat) : Int) True (zCP m S I (zRiP S I) ((e : Nat) : Int))) 26 [some (vR 1), some (vI e), o2] [vI x] L G k n := by
  have hF := fo.2.2.2.2.1
  have hx := fo.bd
  refine x_istoren (pc := 26) dX11_ring_26 rfl (by decide) rfl ?_
  refine x_iloadn (pc := 27) dX11_ring_27 rfl ?_
  refine x_ieq (tgt := 35) (pc := 28) dX11_ring_28 (by decide) (by rcases hx with rfl | rfl | rfl <;> decide) (fun c_28 => ?_) (fun c_28 => ?_)
  · skip
    obtain ⟨hb, hl, hm9, hK, hr⟩ := fo.ok c_28
    refine x_aloadn (pc := 35) dX11_ring_35 rfl ?_
    refine x_getR (66) (pc := 36) dX11_ring_36 fl_X11_33 k_1 (hL 1 (by decide) (by decide)) (f_1_3 hF) ?_
    refine x_iloadn (pc := 39) dX11_ring_39 rfl ?_
    refine x_cVI (pc := 40) dX11_ring_40 lk_X11_154 (c_ch_rings (x := _) hL hF (show e < 4 by omega) rfl) k_66 ⟨by decide, rfl⟩ (hL 66 (by decide) (by decide)) (⟨by decide, by decide⟩) (Nat.le_of_ble_eq_true rfl) rfl ?_
    rintro x G' ⟨rfl, h_G⟩
    obtain rfl := h_G.symm
    have hz := zCP_ok (P := zRiP S I) (x := G 71 e) he hb hl hr
    exact x_iret dX11_ring_43 rfl (fo.pC hz)
  · skip
    have hz := fo.no (P := zRiP S I) he c_28
    refine x_iloadn (pc := 31) dX11_ring_31 rfl ?_
    refine x_goto (tgt := 43) (pc := 32) dX11_ring_32 (by decide) ?_
    exact x_iret dX11_ring_43 rfl (fo.pC hz)
theorem c_ts_ring {mc ms : Nat} {e0 : Int} {G : Nat → Nat → Int} (hL : x_SL L) (hF : x_Fin xFL G) (hE : cEq m S I G) (hC : cCh L m S I G) (he0 : -2147483648 ≤ e0 ∧ e0 < 2147483648) (hcap : zCap L G m S I e0 True mc ms) :
    CM yX11_ring mX11_ring 7 mc ms [vR 1, vI e0] L G (pChC L G m S I e0 True (zCP m S I (zRiP S I) e0)) := by
  have hm4 := hE.2.1
  refine Ct.of_X (μ := mX11_ring) rfl rfl (by decide) (fun h => by cases h) (Nat.le_of_ble_eq_true rfl) rfl ?_
  by_cases g : 0 ≤ e0 ∧ e0 < m
  · obtain ⟨e, rfl⟩ : ∃ e : Nat, e0 = ((e : Nat) : Int) := ⟨e0.toNat, by omega⟩
    refine x_aloadn (pc := 0) dX11_ring_0 rfl ?_
    refine x_getR (4) (pc := 1) dX11_ring_1 fl_X11_19 k_1 (hL 1 (by decide) (by decide)) (f_1_1 hF) ?_
    refine x_iloadn (pc := 4) dX11_ring_4 rfl ?_
    refine x_cVI (pc := 5) dX11_ring_5 lk_X11_94 (c_Eq_has hL hE he0) k_4 ⟨by decide, rfl⟩ (hL 4 (by decide) (by decide)) (⟨by decide, by decide⟩) (Nat.le_of_ble_eq_true rfl) rfl ?_
    rintro x G' ⟨rfl, h_G⟩
    obtain rfl := h_G.symm
    refine x_ine (tgt := 14) (pc := 8) dX11_ring_8 (by decide) (by split <;> omega) (fun c_8 => ?_) (fun c_8 => ?_)
    rotate_left
    · skip
      exact absurd c_8 (by rw [if_pos g]; decide)
    refine x_aloadn (pc := 14) dX11_ring_14 rfl ?_
    refine x_getR (66) (pc := 15) dX11_ring_15 fl_X11_33 k_1 (hL 1 (by decide) (by decide)) (f_1_3 hF) ?_
    refine x_aloadn (pc := 18) dX11_ring_18 rfl ?_
    refine x_getR (4) (pc := 19) dX11_ring_19 fl_X11_19 k_1 (hL 1 (by decide) (by decide)) (f_1_1 hF) ?_
    refine x_iloadn (pc := 22) dX11_ring_22 rfl ?_
    refine x_fol hL hF hE (by omega) hC (hcap e rfl (by omega) trivial) dX11_ring_23 lk_X11_144 (by decide) (Nat.le_of_ble_eq_true rfl) (fun x L' G' hL fo => ?_)
    exact l_ts_ring hL (by omega) hm4 fo
  · skip
    refine x_aloadn (pc := 0) dX11_ring_0 rfl ?_
    refine x_getR (4) (pc := 1) dX11_ring_1 fl_X11_19 k_1 (hL 1 (by decide) (by decide)) (f_1_1 hF) ?_
    refine x_iloadn (pc := 4) dX11_ring_4 rfl ?_
    refine x_cVI (pc := 5) dX11_ring_5 lk_X11_94 (c_Eq_has hL hE he0) k_4 ⟨by decide, rfl⟩ (hL 4 (by decide) (by decide)) (⟨by decide, by decide⟩) (Nat.le_of_ble_eq_true rfl) rfl ?_
    rintro x G' ⟨rfl, h_G⟩
    obtain rfl := h_G.symm
    refine x_ine (tgt := 14) (pc := 8) dX11_ring_8 (by decide) (by split <;> omega) (fun c_8 => ?_) (fun c_8 => ?_)
    · skip
      exact absurd (if_neg g) c_8
    refine x_bipush (pc := 11) dX11_ring_11 (by decide) ?_
    exact x_iret dX11_ring_13 rfl (pCh_no hC hF (fun w => g w.1) (zCP_2 g))

theorem l_ts_putting {mc ms k n e i : Nat} {x : Int} {o3 : Option (Nat × Int)} {L0 : List Nat} {G0 G : Nat → Nat → Int} {lv : Prop} {P : Int → Prop} (hL : x_SL L) (he : e < m) (hm4 : m ≤ 4) (hi : i < 2147483648) (fo : zFO L0 L G0 m S I e x G) (hP : ∀ y, zCP m S I (zPuP S I i) ((e : Nat) : Int) y → P y) :
    X mX11_putting 7 mc ms (pChC L0 G0 m S I ((e : Nat) : Int) lv P) 33 [some (vR 1), some (vI e), some (vI i), o3] [vI x] L G k n := by
  have hF := fo.2.2.2.2.1
  have hx := fo.bd
  refine x_istoren (pc := 33) dX11_putting_33 rfl (by decide) rfl ?_
  refine x_iloadn (pc := 34) dX11_putting_34 rfl ?_
  refine x_ieq (tgt := 42) (pc := 35) dX11_putting_35 (by decide) (by rcases hx with rfl | rfl | rfl <;> decide) (fun c_35 => ?_) (fun c_35 => ?_)
  · skip
    obtain ⟨hb, hl, hm9, hK, hr⟩ := fo.ok c_35
    refine x_aloadn (pc := 42) dX11_putting_42 rfl ?_
    refine x_getR (66) (pc := 43) dX11_putting_43 fl_X11_33 k_1 (hL 1 (by decide) (by decide)) (f_1_3 hF) ?_
    refine x_iloadn (pc := 46) dX11_putting_46 rfl ?_
    refine x_iloadn (pc := 47) dX11_putting_47 rfl ?_
    refine x_cVI (pc := 48) dX11_putting_48 lk_X11_157 (c_ch_chosen (e := e) (i := i) hL hF (show e < 4 by omega) hi hK) k_66 ⟨by decide, rfl⟩ (hL 66 (by decide) (by decide)) (⟨by decide, by decide⟩) (Nat.le_of_ble_eq_true rfl) rfl ?_
    rintro x G' ⟨hp, h_G⟩
    obtain rfl := h_G.symm
    have hz := zCP_ok (P := zPuP S I i) (x := x) he hb hl hp
    exact x_iret dX11_putting_51 rfl (fo.pC (hP _ hz))
  · skip
    have hz := fo.no (P := zPuP S I i) he c_35
    refine x_iloadn (pc := 38) dX11_putting_38 rfl ?_
    refine x_goto (tgt := 51) (pc := 39) dX11_putting_39 (by decide) ?_
    exact x_iret dX11_putting_51 rfl (fo.pC (hP _ hz))
theorem c_ts_putting {mc ms : Nat} {e0 i : Int} {G : Nat → Nat → Int} (hL : x_SL L) (hF : x_Fin xFL G) (hE : cEq m S I G) (hC : cCh L m S I G) (he0 : -2147483648 ≤ e0 ∧ e0 < 2147483648) (hi0 : -2147483648 ≤ i ∧ i < 2147483648) (hcap : zCap L G m S I e0 (0 ≤ i) mc ms) :
    CM yX11_putting mX11_putting 7 mc ms [vR 1, vI e0, vI i] L G (pChC L G m S I e0 (0 ≤ i) (fun x => (¬ (0 ≤ e0 ∧ e0 < m) ∧ x = -2) ∨ ((0 ≤ e0 ∧ e0 < m) ∧ ((i < 0 ∧ x = -3) ∨ (0 ≤ i ∧ zCP m S I (zPuP S I i.toNat) e0 x))))) := by
  have hm4 := hE.2.1
  refine Ct.of_X (μ := mX11_putting) rfl rfl (by decide) (fun h => by cases h) (Nat.le_of_ble_eq_true rfl) rfl ?_
  by_cases g : 0 ≤ e0 ∧ e0 < m
  · obtain ⟨e, rfl⟩ : ∃ e : Nat, e0 = ((e : Nat) : Int) := ⟨e0.toNat, by omega⟩
    by_cases g2 : 0 ≤ i
    · obtain ⟨i, rfl⟩ : ∃ j : Nat, i = ((j : Nat) : Int) := ⟨i.toNat, by omega⟩
      refine x_aloadn (pc := 0) dX11_putting_0 rfl ?_
      refine x_getR (4) (pc := 1) dX11_putting_1 fl_X11_19 k_1 (hL 1 (by decide) (by decide)) (f_1_1 hF) ?_
      refine x_iloadn (pc := 4) dX11_putting_4 rfl ?_
      refine x_cVI (pc := 5) dX11_putting_5 lk_X11_94 (c_Eq_has hL hE he0) k_4 ⟨by decide, rfl⟩ (hL 4 (by decide) (by decide)) (⟨by decide, by decide⟩) (Nat.le_of_ble_eq_true rfl) rfl ?_
      rintro x G' ⟨rfl, h_G⟩
      obtain rfl := h_G.symm
      refine x_ine (tgt := 14) (pc := 8) dX11_putting_8 (by decide) (by split <;> omega) (fun c_8 => ?_) (fun c_8 => ?_)
      rotate_left
      · skip
        exact absurd c_8 (by rw [if_pos g]; decide)
      refine x_iloadn (pc := 14) dX11_putting_14 rfl ?_
      refine x_ige (tgt := 21) (pc := 15) dX11_putting_15 (by decide) (by omega) (fun c_15 => ?_) (fun c_15 => ?_)
      rotate_left
      · skip
        exact absurd c_15 (by omega)
      refine x_aloadn (pc := 21) dX11_putting_21 rfl ?_
      refine x_getR (66) (pc := 22) dX11_putting_22 fl_X11_33 k_1 (hL 1 (by decide) (by decide)) (f_1_3 hF) ?_
      refine x_aloadn (pc := 25) dX11_putting_25 rfl ?_
      refine x_getR (4) (pc := 26) dX11_putting_26 fl_X11_19 k_1 (hL 1 (by decide) (by decide)) (f_1_1 hF) ?_
      refine x_iloadn (pc := 29) dX11_putting_29 rfl ?_
      refine x_fol hL hF hE (by omega) hC (hcap e rfl (by omega) g2) dX11_putting_30 lk_X11_144 (by decide) (Nat.le_of_ble_eq_true rfl) (fun x L' G' hL fo => ?_)
      exact l_ts_putting hL (by omega) hm4 (by omega) fo (fun y hy => Or.inr ⟨g, Or.inr ⟨g2, by rw [Int.toNat_natCast]; exact hy⟩⟩)
    · skip
      refine x_aloadn (pc := 0) dX11_putting_0 rfl ?_
      refine x_getR (4) (pc := 1) dX11_putting_1 fl_X11_19 k_1 (hL 1 (by decide) (by decide)) (f_1_1 hF) ?_
      refine x_iloadn (pc := 4) dX11_putting_4 rfl ?_
      refine x_cVI (pc := 5) dX11_putting_5 lk_X11_94 (c_Eq_has hL hE he0) k_4 ⟨by decide, rfl⟩ (hL 4 (by decide) (by decide)) (⟨by decide, by decide⟩) (Nat.le_of_ble_eq_true rfl) rfl ?_
      rintro x G' ⟨rfl, h_G⟩
      obtain rfl := h_G.symm
      refine x_ine (tgt := 14) (pc := 8) dX11_putting_8 (by decide) (by split <;> omega) (fun c_8 => ?_) (fun c_8 => ?_)
      rotate_left
      · skip
        exact absurd c_8 (by rw [if_pos g]; decide)
      refine x_iloadn (pc := 14) dX11_putting_14 rfl ?_
      refine x_ige (tgt := 21) (pc := 15) dX11_putting_15 (by decide) (by omega) (fun c_15 => ?_) (fun c_15 => ?_)
      · skip
        exact absurd c_15 g2
      refine x_bipush (pc := 18) dX11_putting_18 (by decide) ?_
      exact x_iret dX11_putting_20 rfl (pCh_no hC hF (fun w => g2 w.2) (Or.inr ⟨g, Or.inl ⟨by omega, rfl⟩⟩))
  · skip
    refine x_aloadn (pc := 0) dX11_putting_0 rfl ?_
    refine x_getR (4) (pc := 1) dX11_putting_1 fl_X11_19 k_1 (hL 1 (by decide) (by decide)) (f_1_1 hF) ?_
    refine x_iloadn (pc := 4) dX11_putting_4 rfl ?_
    refine x_cVI (pc := 5) dX11_putting_5 lk_X11_94 (c_Eq_has hL hE he0) k_4 ⟨by decide, rfl⟩ (hL 4 (by decide) (by decide)) (⟨by decide, by decide⟩) (Nat.le_of_ble_eq_true rfl) rfl ?_
    rintro x G' ⟨rfl, h_G⟩
    obtain rfl := h_G.symm
    refine x_ine (tgt := 14) (pc := 8) dX11_putting_8 (by decide) (by split <;> omega) (fun c_8 => ?_) (fun c_8 => ?_)
    · skip
      exact absurd (if_neg g) c_8
    refine x_bipush (pc := 11) dX11_putting_11 (by decide) ?_
    exact x_iret dX11_putting_13 rfl (pCh_no hC hF (fun w => g w.1) (Or.inl ⟨g, rfl⟩))
theorem l_ts_found {mc ms n0 n e u : Nat} {x k : Int} {o4 : Option (Nat × Int)} {L0 : List Nat} {G0 G : Nat → Nat → Int} {lv : Prop} {P : Int → Prop} (hL : x_SL L) (hE : cEq m S I G0) (he : e < m) (hu : u < 4) (hk : -1 ≤ k ∧ k < 2147483648) (fo : zFO L0 L G0 m S I e x G) (hP : ∀ y, zCP m S I (zFoP S I u k) ((e : Nat) : Int) y → P y) :
    X mX11_found 7 mc ms (pChC L0 G0 m S I ((e : Nat) : Int) lv P) 41 [some (vR 1), some (vI e), some (vI u), some (vI k), o4] [vI x] L G n0 n := by
  have hm4 := hE.2.1
  have hF := fo.2.2.2.2.1
  have hx := fo.bd
  refine x_istore (pc := 41) dX11_found_41 (by decide) rfl ?_
  refine x_iload (pc := 43) dX11_found_43 rfl ?_
  refine x_ieq (tgt := 53) (pc := 45) dX11_found_45 (by decide) (by rcases hx with rfl | rfl | rfl <;> decide) (fun c_45 => ?_) (fun c_45 => ?_)
  · skip
    obtain ⟨hb, hl, hm9, hK, hr⟩ := fo.ok c_45
    refine x_aloadn (pc := 53) dX11_found_53 rfl ?_
    refine x_getR (66) (pc := 54) dX11_found_54 fl_X11_33 k_1 (hL 1 (by decide) (by decide)) (f_1_3 hF) ?_
    refine x_iloadn (pc := 57) dX11_found_57 rfl ?_
    refine x_iloadn (pc := 58) dX11_found_58 rfl ?_
    refine x_iloadn (pc := 59) dX11_found_59 rfl ?_
    refine x_cVI (pc := 60) dX11_found_60 lk_X11_160 (c_ch_foundByIt (e := e) (u := u) (k := k) hL hF (show e < 4 by omega) hu hk (zvS_e hE he hb) hl hK) k_66 ⟨by decide, rfl⟩ (hL 66 (by decide) (by decide)) (⟨by decide, by decide⟩) (Nat.le_of_ble_eq_true rfl) rfl ?_
    rintro y G1 ⟨hp, hQ, hF⟩
    exact x_iret dX11_found_63 rfl ⟨⟨y, rfl, hP _ (zCP_ok he hb hl hp)⟩, fo.1, z_chw fo.2.1 hQ, fo.2.2.2.1.tr (hQ.mono (by decide)), hF, fun e' h1 _ _ => by
      have : e' = e := by omega
      subst this
      exact fo.2.2.2.2.2⟩
  · skip
    have hno := fo.no (P := zFoP S I u k) he c_45
    refine x_iload (pc := 48) dX11_found_48 rfl ?_
    refine x_goto (tgt := 63) (pc := 50) dX11_found_50 (by decide) ?_
    exact x_iret dX11_found_63 rfl (fo.pC (hP _ hno))
theorem c_ts_found {mc ms : Nat} {e0 u k : Int} {G : Nat → Nat → Int} (hL : x_SL L) (hF : x_Fin xFL G) (hE : cEq m S I G) (hC : cCh L m S I G) (he0 : -2147483648 ≤ e0 ∧ e0 < 2147483648) (hu0 : -2147483648 ≤ u ∧ u < 2147483648) (hk0 : -2147483648 ≤ k ∧ k < 2147483648) (hcap : zCap L G m S I e0 ((0 ≤ u ∧ u < 4) ∧ -1 ≤ k) mc ms) :
    CM yX11_found mX11_found 7 mc ms [vR 1, vI e0, vI u, vI k] L G (pChC L G m S I e0 ((0 ≤ u ∧ u < 4) ∧ -1 ≤ k) (fun x => (¬ ((0 ≤ e0 ∧ e0 < m) ∧ 0 ≤ u ∧ u < 4) ∧ x = -2) ∨ (((0 ≤ e0 ∧ e0 < m) ∧ 0 ≤ u ∧ u < 4) ∧ ((k < -1 ∧ x = -3) ∨ (-1 ≤ k ∧ zCP m S I (zFoP S I u.toNat k) e0 x))))) := by
  have hm4 := hE.2.1
  refine Ct.of_X (μ := mX11_found) rfl rfl (by decide) (fun h => by cases h) (Nat.le_of_ble_eq_true rfl) rfl ?_
  by_cases g : 0 ≤ e0 ∧ e0 < m
  · obtain ⟨e, rfl⟩ : ∃ e : Nat, e0 = ((e : Nat) : Int) := ⟨e0.toNat, by omega⟩
    by_cases g1 : 0 ≤ u ∧ u < 4
    · obtain ⟨u, rfl⟩ : ∃ j : Nat, u = ((j : Nat) : Int) := ⟨u.toNat, by omega⟩
      by_cases g2 : -1 ≤ k
      · skip
        refine x_aloadn (pc := 0) dX11_found_0 rfl ?_
        refine x_getR (4) (pc := 1) dX11_found_1 fl_X11_19 k_1 (hL 1 (by decide) (by decide)) (f_1_1 hF) ?_
        refine x_iloadn (pc := 4) dX11_found_4 rfl ?_
        refine x_cVI (pc := 5) dX11_found_5 lk_X11_94 (c_Eq_has hL hE he0) k_4 ⟨by decide, rfl⟩ (hL 4 (by decide) (by decide)) (⟨by decide, by decide⟩) (Nat.le_of_ble_eq_true rfl) rfl ?_
        rintro x G' ⟨rfl, h_G⟩
        obtain rfl := h_G.symm
        refine x_ieq (tgt := 18) (pc := 8) dX11_found_8 (by decide) (by split <;> omega) (fun c_8 => ?_) (fun c_8 => ?_)
        · skip
          exact absurd c_8 (by rw [if_pos g]; decide)
        refine x_iloadn (pc := 11) dX11_found_11 rfl ?_
        refine x_cSI (pc := 12) dX11_found_12 lk_X11_105 (c_ts_none hu0) (⟨by decide, by decide⟩) (Nat.le_of_ble_eq_true rfl) rfl ?_
        rintro x G' ⟨rfl, h_G⟩
        obtain rfl := h_G.symm
        refine x_ieq (tgt := 21) (pc := 15) dX11_found_15 (by decide) (by split <;> omega) (fun c_15 => ?_) (fun c_15 => ?_)
        rotate_left
        · skip
          exact absurd (if_pos g1) c_15
        refine x_iloadn (pc := 21) dX11_found_21 rfl ?_
        refine x_iconst (pc := 22) dX11_found_22 ?_
        refine x_cge (tgt := 29) (pc := 23) dX11_found_23 (by decide) (by omega) (fun c_23 => ?_) (fun c_23 => ?_)
        rotate_left
        · skip
          exact absurd c_23 (by omega)
        refine x_aloadn (pc := 29) dX11_found_29 rfl ?_
        refine x_getR (66) (pc := 30) dX11_found_30 fl_X11_33 k_1 (hL 1 (by decide) (by decide)) (f_1_3 hF) ?_
        refine x_aloadn (pc := 33) dX11_found_33 rfl ?_
        refine x_getR (4) (pc := 34) dX11_found_34 fl_X11_19 k_1 (hL 1 (by decide) (by decide)) (f_1_1 hF) ?_
        refine x_iloadn (pc := 37) dX11_found_37 rfl ?_
        refine x_fol hL hF hE (by omega) hC (hcap e rfl (by omega) ⟨g1, g2⟩) dX11_found_38 lk_X11_144 (by decide) (Nat.le_of_ble_eq_true rfl) (fun x L' G' hL fo => ?_)
        exact l_ts_found hL hE (by omega) (by omega) ⟨g2, hk0.2⟩ fo (fun y hy => Or.inr ⟨⟨g, g1⟩, Or.inr ⟨g2, by rw [Int.toNat_natCast]; exact hy⟩⟩)
      · skip
        refine x_aloadn (pc := 0) dX11_found_0 rfl ?_
        refine x_getR (4) (pc := 1) dX11_found_1 fl_X11_19 k_1 (hL 1 (by decide) (by decide)) (f_1_1 hF) ?_
        refine x_iloadn (pc := 4) dX11_found_4 rfl ?_
        refine x_cVI (pc := 5) dX11_found_5 lk_X11_94 (c_Eq_has hL hE he0) k_4 ⟨by decide, rfl⟩ (hL 4 (by decide) (by decide)) (⟨by decide, by decide⟩) (Nat.le_of_ble_eq_true rfl) rfl ?_
        rintro x G' ⟨rfl, h_G⟩
        obtain rfl := h_G.symm
        refine x_ieq (tgt := 18) (pc := 8) dX11_found_8 (by decide) (by split <;> omega) (fun c_8 => ?_) (fun c_8 => ?_)
        · skip
          exact absurd c_8 (by rw [if_pos g]; decide)
        refine x_iloadn (pc := 11) dX11_found_11 rfl ?_
        refine x_cSI (pc := 12) dX11_found_12 lk_X11_105 (c_ts_none hu0) (⟨by decide, by decide⟩) (Nat.le_of_ble_eq_true rfl) rfl ?_
        rintro x G' ⟨rfl, h_G⟩
        obtain rfl := h_G.symm
        refine x_ieq (tgt := 21) (pc := 15) dX11_found_15 (by decide) (by split <;> omega) (fun c_15 => ?_) (fun c_15 => ?_)
        rotate_left
        · skip
          exact absurd (if_pos g1) c_15
        refine x_iloadn (pc := 21) dX11_found_21 rfl ?_
        refine x_iconst (pc := 22) dX11_found_22 ?_
        refine x_cge (tgt := 29) (pc := 23) dX11_found_23 (by decide) (by omega) (fun c_23 => ?_) (fun c_23 => ?_)
        · skip
          exact absurd c_23 (by omega)
        refine x_bipush (pc := 26) dX11_found_26 (by decide) ?_
        exact x_iret dX11_found_28 rfl (pCh_no hC hF (fun w => g2 w.2.2) (Or.inr ⟨⟨g, g1⟩, Or.inl ⟨by omega, rfl⟩⟩))
    · skip
      refine x_aloadn (pc := 0) dX11_found_0 rfl ?_
      refine x_getR (4) (pc := 1) dX11_found_1 fl_X11_19 k_1 (hL 1 (by decide) (by decide)) (f_1_1 hF) ?_
      refine x_iloadn (pc := 4) dX11_found_4 rfl ?_
      refine x_cVI (pc := 5) dX11_found_5 lk_X11_94 (c_Eq_has hL hE he0) k_4 ⟨by decide, rfl⟩ (hL 4 (by decide) (by decide)) (⟨by decide, by decide⟩) (Nat.le_of_ble_eq_true rfl) rfl ?_
      rintro x G' ⟨rfl, h_G⟩
      obtain rfl := h_G.symm
      refine x_ieq (tgt := 18) (pc := 8) dX11_found_8 (by decide) (by split <;> omega) (fun c_8 => ?_) (fun c_8 => ?_)
      · skip
        exact absurd c_8 (by rw [if_pos g]; decide)
      refine x_iloadn (pc := 11) dX11_found_11 rfl ?_
      refine x_cSI (pc := 12) dX11_found_12 lk_X11_105 (c_ts_none hu0) (⟨by decide, by decide⟩) (Nat.le_of_ble_eq_true rfl) rfl ?_
      rintro x G' ⟨rfl, h_G⟩
      obtain rfl := h_G.symm
      refine x_ieq (tgt := 21) (pc := 15) dX11_found_15 (by decide) (by split <;> omega) (fun c_15 => ?_) (fun c_15 => ?_)
      · skip
        exact absurd c_15 (by rw [if_neg g1]; decide)
      refine x_bipush (pc := 18) dX11_found_18 (by decide) ?_
      exact x_iret dX11_found_20 rfl (pCh_no hC hF (fun w => g1 w.2.1) (Or.inl ⟨fun w => g1 w.2, rfl⟩))
  · skip
    refine x_aloadn (pc := 0) dX11_found_0 rfl ?_
    refine x_getR (4) (pc := 1) dX11_found_1 fl_X11_19 k_1 (hL 1 (by decide) (by decide)) (f_1_1 hF) ?_
    refine x_iloadn (pc := 4) dX11_found_4 rfl ?_
    refine x_cVI (pc := 5) dX11_found_5 lk_X11_94 (c_Eq_has hL hE he0) k_4 ⟨by decide, rfl⟩ (hL 4 (by decide) (by decide)) (⟨by decide, by decide⟩) (Nat.le_of_ble_eq_true rfl) rfl ?_
    rintro x G' ⟨rfl, h_G⟩
    obtain rfl := h_G.symm
    refine x_ieq (tgt := 18) (pc := 8) dX11_found_8 (by decide) (by split <;> omega) (fun c_8 => ?_) (fun c_8 => ?_)
    rotate_left
    · skip
      exact absurd (if_neg g) c_8
    refine x_bipush (pc := 18) dX11_found_18 (by decide) ?_
    exact x_iret dX11_found_20 rfl (pCh_no hC hF (fun w => g w.1) (Or.inl ⟨fun w => g w.1, rfl⟩))
end XC1

