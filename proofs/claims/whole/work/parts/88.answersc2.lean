/-! the class's calls: answers, answer, rank, sure -/
section XAT
variable {m : Nat} {S : Nat → Nat} {I : Nat → Nat → Nat} {lo hi mk : Nat → Nat} {L : List Nat}
def zAL (L L' : List Nat) : Prop := L' = L ∨ L' = L ++ [167] ++ [168]
theorem zAL.SL {L' : List Nat} (h : zAL L L') (hL : x_SL L) : x_SL L' := by
  rcases h with rfl | rfl
  · exact hL
  · exact x_SL2 hL
def pAnP (L : List Nat) (G : Nat → Nat → Int) (m : Nat) (S : Nat → Nat) (I : Nat → Nat → Nat) (lo hi mk : Nat → Nat) (P : Int → Prop) : x_Q := fun v L' G' => (∃ x, v = some (vI x) ∧ P x) ∧ zAL L L' ∧ cAr L' G' ∧ cSuv L' m S I lo hi mk G' ∧ FR zanS G G' ∧ x_Fin xFL G'
theorem zSY.ar {G G' : Nat → Nat → Int} (h : zSY L G m S I lo hi mk G') : cAr L G' ∧ cSuv L m S I lo hi mk G' := ⟨Or.inl h.2.2.1, Or.inr h.2.1, fun _ => ⟨h.2.2.1, h.1⟩⟩
theorem zSY.fr {G G1 G2 : Nat → Nat → Int} (h : zSY L G m S I lo hi mk G1) (hq : FR zfiS G1 G2) (hF : x_Fin xFL G2) : cAr L G2 ∧ cSuv L m S I lo hi mk G2 ∧ FR zanS G G2 := by
  have hrw : cRW L G2 := ⟨h.2.2.1.1, by rw [hq _ (by decide)]; exact h.2.2.1.2.1, by rw [hq _ (by decide)]; exact h.2.2.1.2.2⟩
  have hS : zSu (zWc m S I lo hi mk) (zVc m S I mk) 24057 G2 := h.1.FR hq (by decide) (by decide) (by decide) (by decide)
  exact ⟨Or.inl hrw, ⟨Or.inr (by rw [hq _ (by decide)]; exact h.2.1), fun _ => ⟨hrw, hS⟩⟩, (h.2.2.2.1.mono (by decide)).tr (hq.mono (by decide))⟩
section XAR
variable {μ : x_M} {d mc ms : Nat} {Q : x_Q} {pc : Nat} {ls : List (Option (Nat × Int))} {st : List (Nat × Int)} {G : Nat → Nat → Int}
theorem x_svy {idx : Nat} (hL : x_SL L) (hF : x_Fin xFL G) (hE : cEq m S I G) (hb : cBd lo hi mk G) (hA : cAr L G) (hU : cSuv L m S I lo hi mk G) (hcap : cRW L G ∨ (2 ≤ mc ∧ 13122 ≤ ms)) (hd : decode (x_cc μ) pc = .ok (.invokevirtual idx, 3)) (hlk : x_lkV (x_own μ) idx yX1_survey cX1_survey 5 none 1) (hdd : 8 ≤ d) (hw : x_cats st ≤ 8)
    (kk : ∀ L' G', zAL L L' → zSY L' G m S I lo hi mk G' → X μ d mc ms Q (pc + 3) ls st L' G' (0 + mc) (0 + ms)) : X μ d mc ms Q pc ls (vR 4 :: vR 46 :: st) L G 0 0 := by
  refine x_callV (as := [vR 4]) (Q' := fun v L' G' => v = none ∧ zAL L L' ∧ zSY L' G m S I lo hi mk G') hd hlk (c_an_survey (mc := mc) (ms := ms) hL hF hE hb hA hU hcap (fun L' G' h1 h2 => ⟨rfl, h1, h2⟩)) k_46 ⟨by decide, rfl⟩ (hL 46 (by decide) (by decide)) ⟨hdd, by decide⟩ ⟨by omega, by omega⟩ hw rfl ?_
  rintro v L' G' ⟨rfl, h1, h2⟩ _
  exact kk L' G' h1 h2
end XAR
theorem c_an_howMany {t : Nat} {G : Nat → Nat → Int} (hL : x_SL L) (h : G 46 12 = t) :
    CM yX1_howMany mX1_howMany 0 0 0 [vR 46] L G (qL L fun x G' => x = t ∧ G' = G) := by
  refine Ct.of_X (μ := mX1_howMany) rfl rfl (by decide) (fun h => by cases h) (Nat.le_of_ble_eq_true rfl) rfl ?_
  refine x_aloadn (pc := 0) dX1_howMany_0 rfl ?_
  refine x_getL (pc := 1) dX1_howMany_1 fl_X1_54 k_46 (hL 46 (by decide) (by decide)) ?_
  refine x_rL (pc := 4) dX1_howMany_4 rfl ?_
  exact ⟨h, rfl⟩
theorem l_ts_answers {mc ms k n : Nat} {L0 : List Nat} {G0 G : Nat → Nat → Int} (hL : x_SL L) (hF : x_Fin xFL G) (h1 : zAL L0 L) (h2 : zSY L G0 m S I lo hi mk G) :
    X mX11_answers 8 mc ms (pAnP L0 G0 m S I lo hi mk (fun x => x = (min (zT (zWc m S I lo hi mk) 24057) 1000000001 : Nat))) 11 [some (vR 1)] [] L G k n := by
  have hTb := zTc_lt (m := m) (S := S) (I := I) (lo := lo) (hi := hi) (mk := mk) (c := 24057) (Nat.le_refl _)
  have hb := h2.ar
  have hq : FR zanS G0 G := h2.2.2.2.1.mono (by decide)
  have hT := h2.1.2.1
  refine x_aloadn (pc := 11) dX11_answers_11 rfl ?_
  refine x_getR (46) (pc := 12) dX11_answers_12 fl_X11_26 k_1 (hL 1 (by decide) (by decide)) (f_1_2 hF) ?_
  refine x_cVL (pc := 15) dX11_answers_15 lk_X11_115 (c_an_howMany hL hT) k_46 ⟨by decide, rfl⟩ (hL 46 (by decide) (by decide)) (⟨by decide, by decide⟩) (Nat.le_of_ble_eq_true rfl) rfl ?_
  rintro x G' ⟨rfl, rfl⟩
  refine x_cSI (pc := 18) dX11_answers_18 lk_X11_119 (c_ts_capped (by omega) (by omega)) (⟨by decide, by decide⟩) (Nat.le_of_ble_eq_true rfl) rfl ?_
  rintro x G' ⟨hx, rfl⟩
  refine x_iret dX11_answers_21 rfl ⟨⟨x, rfl, ?_⟩, h1, hb.1, hb.2, hq, hF⟩
  rw [hx]
  split <;> omega
theorem c_ts_answers {mc ms : Nat} {G : Nat → Nat → Int} (hL : x_SL L) (hF : x_Fin xFL G) (hE : cEq m S I G) (hb : cBd lo hi mk G) (hA : cAr L G) (hU : cSuv L m S I lo hi mk G) (hcap : cRW L G ∨ (2 ≤ mc ∧ 13122 ≤ ms)) :
    CM yX11_answers mX11_answers 8 mc ms [vR 1] L G (pAnP L G m S I lo hi mk (fun x => x = (min (zT (zWc m S I lo hi mk) 24057) 1000000001 : Nat))) := by
  refine Ct.of_X (μ := mX11_answers) rfl rfl (by decide) (fun h => by cases h) (Nat.le_of_ble_eq_true rfl) rfl ?_
  refine x_aloadn (pc := 0) dX11_answers_0 rfl ?_
  refine x_getR (46) (pc := 1) dX11_answers_1 fl_X11_26 k_1 (hL 1 (by decide) (by decide)) (f_1_2 hF) ?_
  refine x_aloadn (pc := 4) dX11_answers_4 rfl ?_
  refine x_getR (4) (pc := 5) dX11_answers_5 fl_X11_19 k_1 (hL 1 (by decide) (by decide)) (f_1_1 hF) ?_
  refine x_svy hL hF hE hb hA hU hcap dX11_answers_8 lk_X11_112 (Nat.le_refl _) (Nat.le_of_ble_eq_true rfl) (fun L' G1 h1 h2 => ?_)
  exact l_ts_answers (h1.SL hL) h2.2.2.2.2 h1 h2
def zBad (u i k : Int) : Option Int := if ¬ (0 ≤ u ∧ u < 4) then some (-2) else if ¬ ((0 ≤ i ∧ i ≤ 999999999) ∧ -1 ≤ k) then some (-3) else none
theorem l_ts_answer {mc ms k n i u : Nat} {w : Int} {L0 : List Nat} {G0 G : Nat → Nat → Int} (hL : x_SL L) (hF : x_Fin xFL G) (h1 : zAL L0 L) (h2 : zSY L G0 m S I lo hi mk G) (hE : cEq m S I G) (hb : cBd lo hi mk G) (hi2 : i < 1000000000) (hu : u < 4) (hk : -1 ≤ w ∧ w < 2147483648) :
    X mX11_answer 8 mc ms (pAnP L0 G0 m S I lo hi mk (zTP m S I lo hi mk i u w)) 39 [some (vR 1), some (vI i), some (vI u), some (vI w)] [] L G k n := by
  refine x_aloadn (pc := 39) dX11_answer_39 rfl ?_
  refine x_getR (46) (pc := 40) dX11_answer_40 fl_X11_26 k_1 (hL 1 (by decide) (by decide)) (f_1_2 hF) ?_
  refine x_aloadn (pc := 43) dX11_answer_43 rfl ?_
  refine x_getR (4) (pc := 44) dX11_answer_44 fl_X11_19 k_1 (hL 1 (by decide) (by decide)) (f_1_1 hF) ?_
  refine x_iloadn (pc := 47) dX11_answer_47 rfl ?_
  refine x_iloadn (pc := 48) dX11_answer_48 rfl ?_
  refine x_iloadn (pc := 49) dX11_answer_49 rfl ?_
  refine x_cVI (pc := 50) dX11_answer_50 lk_X11_124 (c_an_told hL hF hE hb h2.2.2.1 h2.1 hi2 hu hk) k_46 ⟨by decide, rfl⟩ (hL 46 (by decide) (by decide)) (⟨by decide, by decide⟩) (Nat.le_of_ble_eq_true rfl) rfl ?_
  rintro x G' ⟨hx, hq, hF⟩
  have h3 := h2.fr hq hF
  exact x_iret dX11_answer_53 rfl ⟨⟨x, rfl, hx⟩, h1, h3.1, h3.2.1, h3.2.2, hF⟩
theorem c_ts_answer {mc ms : Nat} {i u w : Int} {G : Nat → Nat → Int} (hL : x_SL L) (hF : x_Fin xFL G) (hE : cEq m S I G) (hb : cBd lo hi mk G) (hA : cAr L G) (hU : cSuv L m S I lo hi mk G) (hcap : cRW L G ∨ (2 ≤ mc ∧ 13122 ≤ ms)) (hi0 : -2147483648 ≤ i ∧ i < 2147483648) (hu : -2147483648 ≤ u ∧ u < 2147483648) (hw : -2147483648 ≤ w ∧ w < 2147483648) :
    CM yX11_answer mX11_answer 8 mc ms [vR 1, vI i, vI u, vI w] L G (pAnP L G m S I lo hi mk (fun x => (∃ b, zBad u i w = some b ∧ x = b) ∨ (zBad u i w = none ∧ zTP m S I lo hi mk i.toNat u.toNat w x))) := by
  refine Ct.of_X (μ := mX11_answer) rfl rfl (by decide) (fun h => by cases h) (Nat.le_of_ble_eq_true rfl) rfl ?_
  refine x_iloadn (pc := 0) dX11_answer_0 rfl ?_
  refine x_cSI (pc := 1) dX11_answer_1 lk_X11_105 (c_ts_none hu) (⟨by decide, by decide⟩) (Nat.le_of_ble_eq_true rfl) rfl ?_
  rintro x G' ⟨rfl, rfl⟩
  refine x_ieq (tgt := 10) (pc := 4) dX11_answer_4 (by decide) (by split <;> omega) (fun c_4 => ?_) (fun c_4 => ?_)
  · skip
    have g0 : 0 ≤ u ∧ u < 4 := by split at c_4 <;> omega
    refine x_iloadn (pc := 10) dX11_answer_10 rfl ?_
    refine x_ilt (tgt := 25) (pc := 11) dX11_answer_11 (by decide) (by omega) (fun c_11 => ?_) (fun c_11 => ?_)
    · skip
      refine x_bipush (pc := 25) dX11_answer_25 (by decide) ?_
      exact x_iret dX11_answer_27 rfl ⟨⟨-3, rfl, Or.inl ⟨-3, by unfold zBad; rw [if_neg (by omega), if_pos (by omega)], rfl⟩⟩, Or.inl rfl, hA, hU, FR.rf, hF⟩
    · skip
      refine x_iloadn (pc := 14) dX11_answer_14 rfl ?_
      refine x_ldc (pc := 15) dX11_answer_15 co_X11_123 ?_
      refine x_cgt (tgt := 25) (pc := 17) dX11_answer_17 (by decide) (by omega) (fun c_17 => ?_) (fun c_17 => ?_)
      · skip
        refine x_bipush (pc := 25) dX11_answer_25 (by decide) ?_
        exact x_iret dX11_answer_27 rfl ⟨⟨-3, rfl, Or.inl ⟨-3, by unfold zBad; rw [if_neg (by omega), if_pos (by omega)], rfl⟩⟩, Or.inl rfl, hA, hU, FR.rf, hF⟩
      · skip
        refine x_iloadn (pc := 20) dX11_answer_20 rfl ?_
        refine x_iconst (pc := 21) dX11_answer_21 ?_
        refine x_cge (tgt := 28) (pc := 22) dX11_answer_22 (by decide) (by omega) (fun c_22 => ?_) (fun c_22 => ?_)
        · skip
          refine x_aloadn (pc := 28) dX11_answer_28 rfl ?_
          refine x_getR (46) (pc := 29) dX11_answer_29 fl_X11_26 k_1 (hL 1 (by decide) (by decide)) (f_1_2 hF) ?_
          refine x_aloadn (pc := 32) dX11_answer_32 rfl ?_
          refine x_getR (4) (pc := 33) dX11_answer_33 fl_X11_19 k_1 (hL 1 (by decide) (by decide)) (f_1_1 hF) ?_
          obtain ⟨i, rfl⟩ : ∃ j : Nat, i = j := ⟨i.toNat, by omega⟩
          obtain ⟨u, rfl⟩ : ∃ j : Nat, u = j := ⟨u.toNat, by omega⟩
          refine x_svy hL hF hE hb hA hU hcap dX11_answer_36 lk_X11_112 (Nat.le_refl _) (Nat.le_of_ble_eq_true rfl) (fun L' G1 h1 h2 => ?_)
          refine X.imp (fun v L2 G2 h => ?_) (l_ts_answer (i := i) (u := u) (w := w) (h1.SL hL) h2.2.2.2.2 h1 h2 (hE.FR h2.2.2.2.1 (by decide)) (hb.FR h2.2.2.2.1 (by decide) (by decide) (by decide)) (by omega) (by omega) (by omega))
          obtain ⟨⟨x, rfl, hx⟩, hr⟩ := h
          exact ⟨⟨x, rfl, Or.inr ⟨by unfold zBad; rw [if_neg (by omega), if_neg (by omega)], by rw [Int.toNat_natCast, Int.toNat_natCast]; exact hx⟩⟩, hr⟩
        · skip
          refine x_bipush (pc := 25) dX11_answer_25 (by decide) ?_
          exact x_iret dX11_answer_27 rfl ⟨⟨-3, rfl, Or.inl ⟨-3, by unfold zBad; rw [if_neg (by omega), if_pos (by omega)], rfl⟩⟩, Or.inl rfl, hA, hU, FR.rf, hF⟩
  · skip
    refine x_bipush (pc := 7) dX11_answer_7 (by decide) ?_
    exact x_iret dX11_answer_9 rfl ⟨⟨-2, rfl, Or.inl ⟨-2, by unfold zBad; rw [if_pos (by split at c_4 <;> omega)], rfl⟩⟩, Or.inl rfl, hA, hU, FR.rf, hF⟩
/-- the class's rank, capped -/
def zRQ (m : Nat) (S : Nat → Nat) (I : Nat → Nat → Nat) (lo hi mk : Nat → Nat) (tw : Nat → Int) (tn : Nat → Nat) (x : Int) : Prop := ∃ y, zRP m S I lo hi mk tw tn y ∧ x = if 1000000001 ≤ y then 1000000001 else y
theorem zRP_bd {tw : Nat → Int} {tn : Nat → Nat} {y : Int} (hT : ∀ u, u < 4 → tn u ≤ 8 ∧ zgood (tw u) (tn u)) (h : zRP m S I lo hi mk tw tn y) : -1 ≤ y ∧ y < 9223372036854775807 := by
  rcases h with ⟨_, rfl⟩ | ⟨⟨h1, h2⟩, rfl⟩
  · decide
  · obtain ⟨d1, d2, d3⟩ := zcc_z (t := tn) (fun u hu => (hT u hu).1)
    have hTb := zTc_lt (m := m) (S := S) (I := I) (lo := lo) (hi := hi) (mk := mk) (c := zcc tn) (by omega)
    have hrk := zrk_le (m := m) (S := S) (I := I) (z := zcz (zcc tn)) (mk := mk) (T := zTp (zcz (zcc tn)) tw) (zbg (zcz (zcc tn)) 4) (fun p hp => zTp_3 (fun u hu => by rw [d1 u hu]; exact (hT u hu).2) hp)
    have hN := zbg_4 (zcz_v d2).1 4 (Nat.le_refl _)
    have h332 : 3 ^ zbg (zcz (zcc tn)) 4 ≤ 3 ^ 32 := Nat.pow_le_pow_right (by decide) hN
    omega
theorem l_ts_rank {mc ms k n : Nat} {tw : Nat → Int} {tn : Nat → Nat} {L0 : List Nat} {G0 G : Nat → Nat → Int} (hL : x_SL L) (hF : x_Fin xFL G) (h1 : zAL L0 L) (h2 : zSY L G0 m S I lo hi mk G) (hE : cEq m S I G) (hb : cBd lo hi mk G) (hT : cTd tw tn G) :
    X mX11_rank 8 mc ms (pAnP L0 G0 m S I lo hi mk (zRQ m S I lo hi mk tw tn)) 11 [some (vR 1)] [] L G k n := by
  refine x_aloadn (pc := 11) dX11_rank_11 rfl ?_
  refine x_getR (46) (pc := 12) dX11_rank_12 fl_X11_26 k_1 (hL 1 (by decide) (by decide)) (f_1_2 hF) ?_
  refine x_aloadn (pc := 15) dX11_rank_15 rfl ?_
  refine x_getR (4) (pc := 16) dX11_rank_16 fl_X11_19 k_1 (hL 1 (by decide) (by decide)) (f_1_1 hF) ?_
  refine x_cVL (pc := 19) dX11_rank_19 lk_X11_136 (c_an_rankOf hL hF hE hb h2.2.2.1 h2.1 hT) k_46 ⟨by decide, rfl⟩ (hL 46 (by decide) (by decide)) (⟨by decide, by decide⟩) (Nat.le_of_ble_eq_true rfl) rfl ?_
  rintro y G' ⟨hy, hq, hF⟩
  have hyb := zRP_bd (fun u hu => ⟨(hT u hu).2.2.1, (hT u hu).2.2.2.2⟩) hy
  refine x_cSI (pc := 22) dX11_rank_22 lk_X11_119 (c_ts_capped (by omega) (by omega)) (⟨by decide, by decide⟩) (Nat.le_of_ble_eq_true rfl) rfl ?_
  rintro x G' ⟨hx, rfl⟩
  have h3 := h2.fr hq hF
  exact x_iret dX11_rank_25 rfl ⟨⟨x, rfl, y, hy, hx⟩, h1, h3.1, h3.2.1, h3.2.2, hF⟩
theorem c_ts_rank {mc ms : Nat} {tw : Nat → Int} {tn : Nat → Nat} {G : Nat → Nat → Int} (hL : x_SL L) (hF : x_Fin xFL G) (hE : cEq m S I G) (hb : cBd lo hi mk G) (hA : cAr L G) (hU : cSuv L m S I lo hi mk G) (hT : cTd tw tn G) (hcap : cRW L G ∨ (2 ≤ mc ∧ 13122 ≤ ms)) :
    CM yX11_rank mX11_rank 8 mc ms [vR 1] L G (pAnP L G m S I lo hi mk (zRQ m S I lo hi mk tw tn)) := by
  refine Ct.of_X (μ := mX11_rank) rfl rfl (by decide) (fun h => by cases h) (Nat.le_of_ble_eq_true rfl) rfl ?_
  refine x_aloadn (pc := 0) dX11_rank_0 rfl ?_
  refine x_getR (46) (pc := 1) dX11_rank_1 fl_X11_26 k_1 (hL 1 (by decide) (by decide)) (f_1_2 hF) ?_
  refine x_aloadn (pc := 4) dX11_rank_4 rfl ?_
  refine x_getR (4) (pc := 5) dX11_rank_5 fl_X11_19 k_1 (hL 1 (by decide) (by decide)) (f_1_1 hF) ?_
  refine x_svy hL hF hE hb hA hU hcap dX11_rank_8 lk_X11_112 (Nat.le_refl _) (Nat.le_of_ble_eq_true rfl) (fun L' G1 h1 h2 => ?_)
  exact l_ts_rank (h1.SL hL) h2.2.2.2.2 h1 h2 (hE.FR h2.2.2.2.1 (by decide)) (hb.FR h2.2.2.2.1 (by decide) (by decide) (by decide)) (fun u hu => by rw [h2.2.2.2.1 _ (by decide), h2.2.2.2.1 _ (by decide)]; exact hT u hu)
noncomputable def zSP (m : Nat) (S : Nat → Nat) (I : Nat → Nat → Nat) (lo hi mk : Nat → Nat) (u k : Nat) : Int := if zsr (zWc m S I lo hi mk) (zVc m S I mk (8 * u + k)) 24057 = -2 then -1 else zsr (zWc m S I lo hi mk) (zVc m S I mk (8 * u + k)) 24057
theorem l_ts_sure {mc ms k n u w : Nat} {L0 : List Nat} {G0 G : Nat → Nat → Int} (hL : x_SL L) (hF : x_Fin xFL G) (h1 : zAL L0 L) (h2 : zSY L G0 m S I lo hi mk G) (hu : u < 4) (hw : w < 8) :
    X mX11_sure 8 mc ms (pAnP L0 G0 m S I lo hi mk (fun x => x = zSP m S I lo hi mk u w)) 34 [some (vR 1), some (vI u), some (vI w)] [] L G k n := by
  have hb := h2.ar
  have hq : FR zanS G0 G := h2.2.2.2.1.mono (by decide)
  have hS := h2.1
  refine x_aloadn (pc := 34) dX11_sure_34 rfl ?_
  refine x_getR (46) (pc := 35) dX11_sure_35 fl_X11_26 k_1 (hL 1 (by decide) (by decide)) (f_1_2 hF) ?_
  refine x_iloadn (pc := 38) dX11_sure_38 rfl ?_
  refine x_iloadn (pc := 39) dX11_sure_39 rfl ?_
  refine x_cVI (pc := 40) dX11_sure_40 lk_X11_140 (c_an_sureL (u := u) (k := w) hL hF hS hu hw) k_46 ⟨by decide, rfl⟩ (hL 46 (by decide) (by decide)) (⟨by decide, by decide⟩) (Nat.le_of_ble_eq_true rfl) rfl ?_
  rintro x G' ⟨hx, rfl⟩
  exact x_iret dX11_sure_43 rfl ⟨⟨x, rfl, hx⟩, h1, hb.1, hb.2, hq, hF⟩
theorem c_ts_sure {mc ms : Nat} {u w : Int} {G : Nat → Nat → Int} (hL : x_SL L) (hF : x_Fin xFL G) (hE : cEq m S I G) (hb : cBd lo hi mk G) (hA : cAr L G) (hU : cSuv L m S I lo hi mk G) (hcap : cRW L G ∨ (2 ≤ mc ∧ 13122 ≤ ms)) (hu : -2147483648 ≤ u ∧ u < 2147483648) (hw : -2147483648 ≤ w ∧ w < 2147483648) :
    CM yX11_sure mX11_sure 8 mc ms [vR 1, vI u, vI w] L G (pAnP L G m S I lo hi mk (fun x => x = if ¬ (0 ≤ u ∧ u < 4) then -2 else if ¬ (0 ≤ w ∧ w < 8) then -3 else zSP m S I lo hi mk u.toNat w.toNat)) := by
  refine Ct.of_X (μ := mX11_sure) rfl rfl (by decide) (fun h => by cases h) (Nat.le_of_ble_eq_true rfl) rfl ?_
  refine x_iloadn (pc := 0) dX11_sure_0 rfl ?_
  refine x_cSI (pc := 1) dX11_sure_1 lk_X11_105 (c_ts_none hu) (⟨by decide, by decide⟩) (Nat.le_of_ble_eq_true rfl) rfl ?_
  rintro x G' ⟨rfl, rfl⟩
  refine x_ieq (tgt := 10) (pc := 4) dX11_sure_4 (by decide) (by split <;> omega) (fun c_4 => ?_) (fun c_4 => ?_)
  · skip
    have g0 : 0 ≤ u ∧ u < 4 := by split at c_4 <;> omega
    refine x_iloadn (pc := 10) dX11_sure_10 rfl ?_
    refine x_ilt (tgt := 20) (pc := 11) dX11_sure_11 (by decide) (by omega) (fun c_11 => ?_) (fun c_11 => ?_)
    · skip
      refine x_bipush (pc := 20) dX11_sure_20 (by decide) ?_
      exact x_iret dX11_sure_22 rfl ⟨⟨-3, rfl, by rw [if_neg (by omega), if_pos (by omega)]⟩, Or.inl rfl, hA, hU, FR.rf, hF⟩
    · skip
      refine x_iloadn (pc := 14) dX11_sure_14 rfl ?_
      refine x_bipush (pc := 15) dX11_sure_15 (by decide) ?_
      refine x_clt (tgt := 23) (pc := 17) dX11_sure_17 (by decide) (by omega) (fun c_17 => ?_) (fun c_17 => ?_)
      · skip
        refine x_aloadn (pc := 23) dX11_sure_23 rfl ?_
        refine x_getR (46) (pc := 24) dX11_sure_24 fl_X11_26 k_1 (hL 1 (by decide) (by decide)) (f_1_2 hF) ?_
        refine x_aloadn (pc := 27) dX11_sure_27 rfl ?_
        refine x_getR (4) (pc := 28) dX11_sure_28 fl_X11_19 k_1 (hL 1 (by decide) (by decide)) (f_1_1 hF) ?_
        obtain ⟨w, rfl⟩ : ∃ j : Nat, w = j := ⟨w.toNat, by omega⟩
        obtain ⟨u, rfl⟩ : ∃ j : Nat, u = j := ⟨u.toNat, by omega⟩
        refine x_svy hL hF hE hb hA hU hcap dX11_sure_31 lk_X11_112 (Nat.le_refl _) (Nat.le_of_ble_eq_true rfl) (fun L' G1 h1 h2 => ?_)
        refine X.imp (fun v L2 G2 h => ?_) (l_ts_sure (u := u) (w := w) (h1.SL hL) h2.2.2.2.2 h1 h2 (by omega) (by omega))
        obtain ⟨⟨x, rfl, hx⟩, hr⟩ := h
        exact ⟨⟨x, rfl, by rw [if_neg (by omega), if_neg (by omega), Int.toNat_natCast, Int.toNat_natCast]; exact hx⟩, hr⟩
      · skip
        refine x_bipush (pc := 20) dX11_sure_20 (by decide) ?_
        exact x_iret dX11_sure_22 rfl ⟨⟨-3, rfl, by rw [if_neg (by omega), if_pos (by omega)]⟩, Or.inl rfl, hA, hU, FR.rf, hF⟩
  · skip
    refine x_bipush (pc := 7) dX11_sure_7 (by decide) ?_
    exact x_iret dX11_sure_9 rfl ⟨⟨-2, rfl, by rw [if_pos (by split at c_4 <;> omega)]⟩, Or.inl rfl, hA, hU, FR.rf, hF⟩
end XAT

