/-! the reference: what is sure -/
abbrev zrl (O : Nat) (s : Int) : Prop := (s = -2 ∧ O = 0) ∨ (s = 0 ∧ O = 1) ∨ (s = 1 ∧ O = 2) ∨ (s = 2 ∧ O = 4) ∨ (s = -1 ∧ O < 16 ∧ O ≠ 0 ∧ O ≠ 1 ∧ O ≠ 2 ∧ O ≠ 4)
def zlv (v : Nat) : Int := if v = 8 then -1 else if zpop v = 1 then zla v 0 else -1
def zrlf (O : Nat) : Int := if O = 0 then -2 else if O = 1 then 0 else if O = 2 then 1 else if O = 4 then 2 else -1
theorem zrl_dec : ∀ O, O < 16 → ∀ v, v < 9 → v ≠ 0 → zrlf (O ||| v) = zss (zrlf O) (zlv v) ∧ O ||| v < 16 := by decide +kernel
theorem zrl_iff {O : Nat} {s : Int} : zrl O s ↔ O < 16 ∧ s = zrlf O := by
  unfold zrlf
  repeat' split
  all_goals omega
theorem zrl_lt {O : Nat} {s : Int} (h : zrl O s) : O < 16 := by omega
theorem zrl_step {O v : Nat} {s : Int} (h : zrl O s) (hv : v < 9) (h0 : v ≠ 0) : zrl (O ||| v) (zss s (zlv v)) := by
  obtain ⟨h1, h2⟩ := zrl_iff.mp h
  obtain ⟨k1, k2⟩ := zrl_dec O h1 v hv h0
  exact zrl_iff.mpr ⟨k2, by rw [k1, h2]⟩
theorem zss_n2 {O v : Nat} {s : Int} (h : zrl O s) (hv : v < 9) (h0 : v ≠ 0) : zss s (zlv v) ≠ -2 := by
  have hall : ∀ v, v < 9 → v ≠ 0 → -1 ≤ zlv v := by decide +kernel
  have := hall v hv h0
  unfold zss
  split
  · decide
  · split
    · omega
    · decide
section XSR
variable {m : Nat} {S : Nat → Nat} {I : Nat → Nat → Nat} {lo hi mk : Nat → Nat} {L : List Nat}
theorem l_mo_su89 {Q : x_Q} {c u k O : Nat} {b v1 : Int} {G0 G : Nat → Nat → Int} (hL : x_SL L) (hF : x_Fin xFL G) (hC : mCo c G) (hc : c < 24057) (hQ : FM zamS [22, 25] G0 G)
    (ih : ∀ (c' : Nat) (v : Int) (G' : Nat → Nat → Int), c < c' → (∀ j, c < j → j < c' → ¬ zcv j) → zMr c' v → mCo c' G' → FM zamS [22, 25] G0 G' → x_Fin xFL G' → X mX12_sure 3 0 0 Q 37 [some (vR 127), some (vI u), some (vI k), some (vI O), some (vI b), some (vI v)] [] L G' 0 0) :
    X mX12_sure 3 0 0 Q 89 [some (vR 127), some (vI u), some (vI k), some (vI O), some (vI b), some (vI v1)] [] L G 0 0 := by
  refine x_aloadn (pc := 89) dX12_sure_89 rfl ?_
  refine x_cVI (pc := 90) dX12_sure_90 lk_X12_198 (c_mo_nextLengths hL hF hc hC) k_127 ⟨by decide, rfl⟩ (hL 127 (by decide) (by decide)) (⟨by decide, by decide⟩) (Nat.le_of_ble_eq_true rfl) rfl ?_
  rintro v G2 ⟨c', k1, k2, k3, k4, k5, k6, hF⟩
  refine x_istore (pc := 93) dX12_sure_93 (by decide) rfl ?_
  refine x_goto (tgt := 37) (pc := 95) dX12_sure_95 (by decide) ?_
  exact ih c' v G2 k1 k3 k5 k4 (hQ.tr (k6.mono (by decide) (by decide))) hF
theorem l_mo_su87 {Q : x_Q} {u k O w : Nat} {b v1 : Int} {G : Nat → Nat → Int} (hO : O < 16) (hw : w < 9)
    (cont : X mX12_sure 3 0 0 Q 89 [some (vR 127), some (vI u), some (vI k), some (vI ((O ||| w : Nat) : Int)), some (vI b), some (vI v1)] [] L G 0 0) :
    X mX12_sure 3 0 0 Q 87 [some (vR 127), some (vI u), some (vI k), some (vI O), some (vI b), some (vI v1)] [vI ((w : Nat) : Int), vI ((O : Nat) : Int)] L G 0 0 := by
  refine x_iorN (pc := 87) dX12_sure_87 O w rfl rfl (by omega) ?_
  refine x_istoren (pc := 88) dX12_sure_88 rfl (by decide) rfl ?_
  exact cont
theorem zVc_at {u k c : Nat} (hk : k < 8) : zVc m S I mk (8 * u + k) c = zol m S I (zcz c) mk u k := by
  unfold zVc
  rw [show (8 * u + k) / 8 = u by omega, show (8 * u + k) % 8 = k by omega]
theorem zlv_ol {z : Nat → Nat} {u k p : Nat} (hp : p = zbg z u + k) (hk : k < z u) (h8 : zA m S I z mk (3 + p) < 8) : zlv (zA m S I z mk (3 + p)) = zol m S I z mk u k := by
  subst hp
  have e1 : zlv (zA m S I z mk (3 + (zbg z u + k))) = if zpop (zA m S I z mk (3 + (zbg z u + k))) = 1 then zla (zA m S I z mk (3 + (zbg z u + k))) 0 else -1 := if_neg (by omega)
  have e2 : zol m S I z mk u k = if zpop (zA m S I z mk (3 + (zbg z u + k))) = 1 then zla (zA m S I z mk (3 + (zbg z u + k))) 0 else -1 := if_pos hk
  rw [e1, e2]
theorem l_mo_sure {G0 : Nat → Nat → Int} {u k : Nat} (hL : x_SL L) (hE : mEq m S I G0) (hB : mBd lo hi mk G0) (hu : u < 4) (hk : k < 8) :
    ∀ (r c O : Nat) (b v : Int) (G : Nat → Nat → Int), 24057 ≤ c + r → zMr c v → zrl O (zsr (zWc m S I lo hi mk) (zVc m S I mk (8 * u + k)) c) → ((b = 0 ∧ zsr (zWc m S I lo hi mk) (zVc m S I mk (8 * u + k)) c = -2) ∨ (b = 1 ∧ zsr (zWc m S I lo hi mk) (zVc m S I mk (8 * u + k)) c ≠ -2)) → mCo c G → FM zamS [22, 25] G0 G → x_Fin xFL G →
    X mX12_sure 3 0 0 (pAmP L G0 (fun x => x = zSP m S I lo hi mk u k)) 37 [some (vR 127), some (vI u), some (vI k), some (vI O), some (vI b), some (vI v)] [] L G 0 0 := by
  have fin : ∀ (O : Nat) (b v : Int) (G : Nat → Nat → Int), v = 0 → zrl O (zsr (zWc m S I lo hi mk) (zVc m S I mk (8 * u + k)) 24057) → ((b = 0 ∧ zsr (zWc m S I lo hi mk) (zVc m S I mk (8 * u + k)) 24057 = -2) ∨ (b = 1 ∧ zsr (zWc m S I lo hi mk) (zVc m S I mk (8 * u + k)) 24057 ≠ -2)) → FM zamS [22, 25] G0 G → x_Fin xFL G →
      X mX12_sure 3 0 0 (pAmP L G0 (fun x => x = zSP m S I lo hi mk u k)) 37 [some (vR 127), some (vI u), some (vI k), some (vI O), some (vI b), some (vI v)] [] L G 0 0 := by
    intro O b v G hv hr hb hQ hF
    subst hv
    have hsp : zSP m S I lo hi mk u k = if zsr (zWc m S I lo hi mk) (zVc m S I mk (8 * u + k)) 24057 = -2 then -1 else zsr (zWc m S I lo hi mk) (zVc m S I mk (8 * u + k)) 24057 := rfl
    obtain ⟨s, hs⟩ : ∃ s, s = zsr (zWc m S I lo hi mk) (zVc m S I mk (8 * u + k)) 24057 := ⟨_, rfl⟩
    rw [← hs] at hr hb hsp
    refine x_iload (pc := 37) dX12_sure_37 rfl ?_
    refine x_ieq (tgt := 98) (pc := 39) dX12_sure_39 (by decide) (by omega) (fun c_39 => ?_) (fun c_39 => ?_)
    rotate_left
    · skip
      exact absurd rfl c_39
    refine x_iload (pc := 98) dX12_sure_98 rfl ?_
    refine x_ieq (tgt := 124) (pc := 100) dX12_sure_100 (by decide) (by omega) (fun c_100 => ?_) (fun c_100 => ?_)
    · skip
      refine x_iconst (pc := 124) dX12_sure_124 ?_
      refine x_rI (pc := 125) dX12_sure_125 rfl ?_
      refine ⟨?_, hQ, hF⟩
      rw [hsp]
      split <;> omega
    · skip
      refine x_iloadn (pc := 103) dX12_sure_103 rfl ?_
      refine x_iconst (pc := 104) dX12_sure_104 ?_
      refine x_ceq (tgt := 118) (pc := 105) dX12_sure_105 (by decide) (by omega) (fun c_105 => ?_) (fun c_105 => ?_)
      · skip
        refine x_iloadn (pc := 118) dX12_sure_118 rfl ?_
        refine x_iconst (pc := 119) dX12_sure_119 ?_
        refine x_idiv (pc := 120) dX12_sure_120 (by omega) ?_
        refine x_goto (tgt := 125) (pc := 121) dX12_sure_121 (by decide) ?_
        refine x_rI (pc := 125) dX12_sure_125 rfl ?_
        refine ⟨?_, hQ, hF⟩
        rw [hsp]
        split <;> omega
      · skip
        refine x_iloadn (pc := 108) dX12_sure_108 rfl ?_
        refine x_iconst (pc := 109) dX12_sure_109 ?_
        refine x_ceq (tgt := 118) (pc := 110) dX12_sure_110 (by decide) (by omega) (fun c_110 => ?_) (fun c_110 => ?_)
        · skip
          refine x_iloadn (pc := 118) dX12_sure_118 rfl ?_
          refine x_iconst (pc := 119) dX12_sure_119 ?_
          refine x_idiv (pc := 120) dX12_sure_120 (by omega) ?_
          refine x_goto (tgt := 125) (pc := 121) dX12_sure_121 (by decide) ?_
          refine x_rI (pc := 125) dX12_sure_125 rfl ?_
          refine ⟨?_, hQ, hF⟩
          rw [hsp]
          split <;> omega
        · skip
          refine x_iloadn (pc := 113) dX12_sure_113 rfl ?_
          refine x_iconst (pc := 114) dX12_sure_114 ?_
          refine x_cne (tgt := 124) (pc := 115) dX12_sure_115 (by decide) (by omega) (fun c_115 => ?_) (fun c_115 => ?_)
          · skip
            refine x_iconst (pc := 124) dX12_sure_124 ?_
            refine x_rI (pc := 125) dX12_sure_125 rfl ?_
            refine ⟨?_, hQ, hF⟩
            rw [hsp]
            split <;> omega
          · skip
            refine x_iloadn (pc := 118) dX12_sure_118 rfl ?_
            refine x_iconst (pc := 119) dX12_sure_119 ?_
            refine x_idiv (pc := 120) dX12_sure_120 (by omega) ?_
            refine x_goto (tgt := 125) (pc := 121) dX12_sure_121 (by decide) ?_
            refine x_rI (pc := 125) dX12_sure_125 rfl ?_
            refine ⟨?_, hQ, hF⟩
            rw [hsp]
            split <;> omega
  intro r
  induction r with
  | zero =>
    intro c O b v G hr hv ho hb hC hQ hF
    rcases hv with ⟨_, h, _⟩ | ⟨hv, rfl⟩
    · omega
    exact fin O b v G hv ho hb hQ hF
  | succ r ih =>
    intro c O b v G hr hv ho hb hC hQ hF
    rcases hv with ⟨rfl, hc, hcv⟩ | ⟨hv, rfl⟩
    · have hE1 := hE.FM hQ (by decide) (by decide) (by decide) (by decide)
      have hB1 := hB.FM hQ (by decide) (by decide) (by decide)
      have hy := zWc_y (m := m) (S := S) (I := I) (lo := lo) (hi := hi) (mk := mk) hcv
      have hV : zEV m S I := fun q hq => ⟨(hE.2.2 q hq).2.1, fun j hj => ((hE.2.2 q hq).2.2 j hj).2⟩
      have hz := (zcz_v hcv).1
      have hN := zbg_4 hz 4 (Nat.le_refl _)
      have hbs : zbg (zcz c) (u + 1) = zbg (zcz c) u + zcz c u := rfl
      have hb4 := zbg_le (z := zcz c) (show u + 1 ≤ 4 by omega)
      have hWy := zWy_live (lo := lo) (hi := hi) (mk := mk) hV hz
      rw [← hy] at hWy
      have hzu := hz u hu
      have hO := zrl_lt ho
      have skip : ∀ a c', a ≤ c' → (∀ j, a ≤ j → j < c' → ¬ zcv j) → zsr (zWc m S I lo hi mk) (zVc m S I mk (8 * u + k)) c' = zsr (zWc m S I lo hi mk) (zVc m S I mk (8 * u + k)) a := fun a c' h1 h2 => zsr_skip c' h1 (fun j h3 h4 => zWc_n (h2 j h3 h4))
      have hst : zsr (zWc m S I lo hi mk) (zVc m S I mk (8 * u + k)) (c + 1) = if 0 < zWc m S I lo hi mk c then zss (zsr (zWc m S I lo hi mk) (zVc m S I mk (8 * u + k)) c) (zVc m S I mk (8 * u + k) c) else zsr (zWc m S I lo hi mk) (zVc m S I mk (8 * u + k)) c := rfl
      have hvc := zVc_at (m := m) (S := S) (I := I) (mk := mk) (u := u) (c := c) hk
      obtain ⟨s, hs⟩ : ∃ s, s = zsr (zWc m S I lo hi mk) (zVc m S I mk (8 * u + k)) c := ⟨_, rfl⟩
      rw [← hs] at ho hb hst
      have nx : ∀ (w : Nat), 0 < zWc m S I lo hi mk c → w < 9 → w ≠ 0 → zlv w = zol m S I (zcz c) mk u k → ∀ (c' : Nat) (v : Int) (G' : Nat → Nat → Int), c < c' → (∀ j, c < j → j < c' → ¬ zcv j) → zMr c' v → mCo c' G' → FM zamS [22, 25] G0 G' → x_Fin xFL G' → X mX12_sure 3 0 0 (pAmP L G0 (fun x => x = zSP m S I lo hi mk u k)) 37 [some (vR 127), some (vI u), some (vI k), some (vI ((O ||| w : Nat) : Int)), some (vI 1), some (vI v)] [] L G' 0 0 := fun w hW h9 h0 hl c' v G' h1 h2 h3 h4 h5 h6 => by
        have e1 := skip (c + 1) c' (by omega) (fun j a b => h2 j (by omega) b)
        rw [hst, if_pos hW, hvc, ← hl] at e1
        exact ih c' (O ||| w) 1 v G' (by omega) h3 (by rw [e1]; exact zrl_step ho h9 h0) (Or.inr ⟨rfl, by rw [e1]; exact zss_n2 ho h9 h0⟩) h4 h5 h6
      refine x_iload (pc := 37) dX12_sure_37 rfl ?_
      refine x_ieq (tgt := 98) (pc := 39) dX12_sure_39 (by decide) (by omega) (fun c_39 => ?_) (fun c_39 => ?_)
      · skip
        exact absurd c_39 (by decide)
      refine x_aloadn (pc := 42) dX12_sure_42 rfl ?_
      refine x_cVL (pc := 43) dX12_sure_43 lk_X12_194 (c_mo_waysNow hL hF hE1 hB1 (hC.FL hcv)) k_127 ⟨by decide, rfl⟩ (hL 127 (by decide) (by decide)) (⟨by decide, by decide⟩) (Nat.le_of_ble_eq_true rfl) rfl ?_
      rintro x G1 ⟨rfl, q1, hF, hW⟩
      rw [← hy] at hW ⊢
      have hC1 := hC.FM q1 (by decide) (by decide) (by decide)
      have hZ := hC1.FL hcv u hu
      have hQ1 := hQ.tr (q1.mono (S' := zamS) (F' := [22, 25]) (by decide) (by decide))
      refine x_lconst (x := 0) (pc := 46) dX12_sure_46 (by decide) ?_
      refine x_lcmp (pc := 47) dX12_sure_47 (by omega) ?_
      refine x_ile (tgt := 89) (pc := 48) dX12_sure_48 (by decide) (zl_rg) (fun c_48 => ?_) (fun c_48 => ?_)
      · skip
        have c_48 := zl_le c_48
        refine l_mo_su89 hL hF hC1 hc hQ1 (fun c' v G' h1 h2 h3 h4 h5 h6 => ?_)
        have e1 := skip (c + 1) c' (by omega) (fun j a b => h2 j (by omega) b)
        rw [hst, if_neg (by omega)] at e1
        exact ih c' O b v G' (by omega) h3 (by rw [e1]; exact ho) (by rw [e1]; exact hb) h4 h5 h6
      · skip
        have c_48 := zl_g c_48
        have hW0 : 0 < zWc m S I lo hi mk c := by omega
        obtain ⟨w1, w2, w3, w4⟩ := hW hW0
        obtain ⟨y1, y2, y3⟩ := hWy hW0
        refine x_iconst (pc := 51) dX12_sure_51 ?_
        refine x_istore (pc := 52) dX12_sure_52 (by decide) rfl ?_
        refine x_iloadn (pc := 54) dX12_sure_54 rfl ?_
        refine x_iloadn (pc := 55) dX12_sure_55 rfl ?_
        refine x_aloadn (pc := 56) dX12_sure_56 rfl ?_
        refine x_getR (144) (pc := 57) dX12_sure_57 fl_X12_58 k_127 (hL 127 (by decide) (by decide)) (f_127_20 hF) ?_
        refine x_iloadn (pc := 60) dX12_sure_60 rfl ?_
        refine x_iald (u) (pc := 61) dX12_sure_61 k_144 (hL 144 (by decide) (by decide)) (⟨by omega, by omega, by decide⟩) ?_
        rw [hZ.1]
        refine x_cge (tgt := 85) (pc := 62) dX12_sure_62 (by decide) (by omega) (fun c_62 => ?_) (fun c_62 => ?_)
        · skip
          refine x_bipush (pc := 85) dX12_sure_85 (by decide) ?_
          first
          | exact l_mo_su87 (w := 8) hO (by decide) (l_mo_su89 hL hF hC1 hc hQ1 (nx 8 hW0 (by decide) (by decide) (by unfold zlv zol; rw [if_pos rfl, if_neg (by omega)])))
          | exact l_mo_su87 (w := zA m S I (zcz c) mk (3 + p)) hO (by omega) (l_mo_su89 hL hF hC1 hc hQ1 (nx _ hW0 (by omega) (by rw [← a4]; exact a5) (zlv_ol hp (by omega) a6)))
        · skip
          obtain ⟨p, hp⟩ : ∃ p, p = zbg (zcz c) u + k := ⟨_, rfl⟩
          obtain ⟨a1, a2, a3⟩ := zg_F (p := p) hV y1 hz (by omega)
          have a4 := zg_A (mk := mk) (p := p) hV y1 hz (by omega)
          have a5 := y3 (zg m S I (zcz c) p) (by omega) a2
          have a6 := zA_lt (m := m) (S := S) (I := I) (z := zcz c) (mk := mk) (3 + p)
          refine x_aloadn (pc := 65) dX12_sure_65 rfl ?_
          refine x_getR (147) (pc := 66) dX12_sure_66 fl_X12_67 k_127 (hL 127 (by decide) (by decide)) (f_127_24 hF) ?_
          refine x_aloadn (pc := 69) dX12_sure_69 rfl ?_
          refine x_aloadn (pc := 70) dX12_sure_70 rfl ?_
          refine x_getR (145) (pc := 71) dX12_sure_71 fl_X12_61 k_127 (hL 127 (by decide) (by decide)) (f_127_21 hF) ?_
          refine x_iloadn (pc := 74) dX12_sure_74 rfl ?_
          refine x_iald (u) (pc := 75) dX12_sure_75 k_145 (hL 145 (by decide) (by decide)) (⟨by omega, by omega, by decide⟩) ?_
          rw [w2 u hu]
          refine x_iloadn (pc := 76) dX12_sure_76 rfl ?_
          refine x_iadd (pc := 77) dX12_sure_77 ?_
          rw [show ((zbg (zcz c) u : Nat) : Int) + (k : Int) = ((p : Nat) : Int) by omega]
          refine x_cVI (pc := 78) dX12_sure_78 lk_X12_166 (c_mo_leadOf (x := p) hL hF w3 (by omega)) k_127 ⟨by decide, rfl⟩ (hL 127 (by decide) (by decide)) (⟨by decide, by decide⟩) (Nat.le_of_ble_eq_true rfl) rfl ?_
          rintro x G' ⟨rfl, rfl⟩
          refine x_iald (zg m S I (zcz c) p) (pc := 81) dX12_sure_81 k_147 (hL 147 (by decide) (by decide)) (⟨by omega, by omega, by decide⟩) ?_
          rw [w4 (zg m S I (zcz c) p) (by omega) a2, a4]
          refine x_goto (tgt := 87) (pc := 82) dX12_sure_82 (by decide) ?_
          first
          | exact l_mo_su87 (w := 8) hO (by decide) (l_mo_su89 hL hF hC1 hc hQ1 (nx 8 hW0 (by decide) (by decide) (by unfold zlv zol; rw [if_pos rfl, if_neg (by omega)])))
          | exact l_mo_su87 (w := zA m S I (zcz c) mk (3 + p)) hO (by omega) (l_mo_su89 hL hF hC1 hc hQ1 (nx _ hW0 (by omega) (by rw [← a4]; exact a5) (zlv_ol hp (by omega) a6)))
    · exact fin O b v G hv ho hb hQ hF
theorem c_mo_sure {u w : Int} {G : Nat → Nat → Int} (hL : x_SL L) (hF : x_Fin xFL G) (hE : mEq m S I G) (hB : mBd lo hi mk G) (hu : -2147483648 ≤ u ∧ u < 2147483648) (hw : -2147483648 ≤ w ∧ w < 2147483648) :
    CM yX12_sure mX12_sure 3 0 0 [vR 127, vI u, vI w] L G (pAmP L G (fun x => x = if ¬ (0 ≤ u ∧ u < 4) then -2 else if ¬ (0 ≤ w ∧ w < 8) then -3 else zSP m S I lo hi mk u.toNat w.toNat)) := by
  refine Ct.of_X (μ := mX12_sure) rfl rfl (by decide) (fun h => by cases h) (Nat.le_of_ble_eq_true rfl) rfl ?_
  refine x_iloadn (pc := 0) dX12_sure_0 rfl ?_
  refine x_cSI (pc := 1) dX12_sure_1 lk_X12_161 (c_mo_isName hu) (⟨by decide, by decide⟩) (Nat.le_of_ble_eq_true rfl) rfl ?_
  rintro x G' ⟨rfl, rfl⟩
  refine x_ine (tgt := 10) (pc := 4) dX12_sure_4 (by decide) (by omega) (fun c_4 => ?_) (fun c_4 => ?_)
  · skip
    refine x_iloadn (pc := 10) dX12_sure_10 rfl ?_
    refine x_i2l (pc := 11) dX12_sure_11 (by omega) ?_
    refine x_lconst (x := 0) (pc := 12) dX12_sure_12 (by decide) ?_
    refine x_ldc2 (pc := 13) dX12_sure_13 co_X12_164 ?_
    refine x_cSI (pc := 16) dX12_sure_16 lk_X12_131 (c_mo_in (by omega)) (⟨by decide, by decide⟩) (Nat.le_of_ble_eq_true rfl) rfl ?_
    rintro x G' ⟨rfl, rfl⟩
    refine x_ine (tgt := 25) (pc := 19) dX12_sure_19 (by decide) (by omega) (fun c_19 => ?_) (fun c_19 => ?_)
    · skip
      obtain ⟨u', rfl⟩ : ∃ u' : Nat, u = u' := ⟨u.toNat, by split at c_4 <;> omega⟩
      obtain ⟨w', rfl⟩ : ∃ w' : Nat, w = w' := ⟨w.toNat, by split at c_19 <;> omega⟩
      have hu4 : u' < 4 := by split at c_4 <;> omega
      have hw8 : w' < 8 := by split at c_19 <;> omega
      refine x_iconst (pc := 25) dX12_sure_25 ?_
      refine x_istoren (pc := 26) dX12_sure_26 rfl (by decide) rfl ?_
      refine x_iconst (pc := 27) dX12_sure_27 ?_
      refine x_istore (pc := 28) dX12_sure_28 (by decide) rfl ?_
      refine x_aloadn (pc := 30) dX12_sure_30 rfl ?_
      refine x_cVV (pc := 31) dX12_sure_31 lk_X12_191 (c_mo_firstLengths hL hF) k_127 ⟨by decide, rfl⟩ (hL 127 (by decide) (by decide)) (⟨by decide, by decide⟩) (Nat.le_of_ble_eq_true rfl) rfl ?_
      rintro G1 ⟨k1, k2, hF⟩
      refine x_iconst (pc := 34) dX12_sure_34 ?_
      refine x_istore (pc := 35) dX12_sure_35 (by decide) rfl ?_
      refine X.imp (fun v L2 G2 h => ?_) (l_mo_sure hL hE hB hu4 hw8 24057 0 0 0 1 G1 (by omega) (Or.inl ⟨rfl, by decide, zcv_0⟩) (Or.inl ⟨rfl, rfl⟩) (Or.inl ⟨rfl, rfl⟩) k1 (k2.mono (by decide) (by decide)) hF)
      obtain ⟨rfl, x, rfl, hx, hr⟩ := h
      exact ⟨rfl, x, rfl, by rw [if_neg (by omega), if_neg (by omega), Int.toNat_natCast, Int.toNat_natCast]; exact hx, hr⟩
    · skip
      refine x_bipush (pc := 22) dX12_sure_22 (by decide) ?_
      refine x_rI (pc := 24) dX12_sure_24 rfl ?_
      exact ⟨by rw [if_neg (by split at c_4 <;> omega), if_pos (by split at c_19 <;> omega)], FM.rf, hF⟩
  · skip
    refine x_bipush (pc := 7) dX12_sure_7 (by decide) ?_
    refine x_rI (pc := 9) dX12_sure_9 rfl ?_
    exact ⟨by rw [if_pos (by split at c_4 <;> omega)], FM.rf, hF⟩
end XSR

