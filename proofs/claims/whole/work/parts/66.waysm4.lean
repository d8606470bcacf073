/-! patterns making rows: the reference's count, its makes and carries -/
def zls (T : Nat → Nat) : Nat → Int
  | 0 => -1
  | i + 1 => if 0 < T i then (i : Int) else zls T i
theorem zls_sp {T : Nat → Nat} : ∀ i, (zls T i = -1 ∧ ∀ v, v < i → T v = 0) ∨ ∃ l : Nat, zls T i = l ∧ l < i ∧ 0 < T l ∧ ∀ v, l < v → v < i → T v = 0
  | 0 => Or.inl ⟨rfl, fun v hv => absurd hv (Nat.not_lt_zero v)⟩
  | i + 1 => by
    rw [zls]
    by_cases c : 0 < T i
    · rw [if_pos c]; exact Or.inr ⟨i, rfl, by omega, c, fun v h1 h2 => by omega⟩
    · rw [if_neg c]
      rcases zls_sp (T := T) i with ⟨e1, e2⟩ | ⟨l, e1, e2, e3, e4⟩
      · refine Or.inl ⟨e1, fun v hv => ?_⟩
        by_cases e : v = i
        · subst e; omega
        · exact e2 v (by omega)
      · refine Or.inr ⟨l, e1, by omega, e3, fun v h1 h2 => ?_⟩
        by_cases e : v = i
        · subst e; omega
        · exact e4 v h1 (by omega)
section XWO
variable {n m l zl : Nat} {I : Nat → Nat → Nat} {q : Nat} {R p T : Nat → Nat} {L : List Nat}
def zp0 (T : Nat → Nat) (l : Nat) : Nat → Nat := fun v => if v < l then (if 0 < T v then 1 else 0) else 0
theorem zp0_dg (l : Nat) : zDg l T (zp0 T l) := by
  refine ⟨fun v hv => ?_, fun v hv => if_neg (by omega)⟩
  unfold zp0
  rw [if_pos hv]
  split <;> omega
theorem zp0_pc (hT : zTt n I q T zl) (hl : zLa l T) : zPc (zPP n I q m R) (zco (zp0 T l)) = 0 := by
  obtain ⟨l1, l2, l3⟩ := hl
  have hb : zco (zp0 T l) < 923521 := by
    have h01 : ∀ v, zp0 T l v ≤ 1 := fun v => by unfold zp0; split; split <;> omega; omega
    have := h01 0; have := h01 1; have := h01 2; have := h01 3
    unfold zco; omega
  have e : zPc (zPP n I q m R) (zco (zp0 T l)) = zPc (zPP n I q m R) 0 := by
    refine zPc_skip _ (Nat.zero_le _) (fun c h1 h2 hP => ?_)
    have hq := zdg_eq (c := c) (by omega)
    obtain ⟨a, b, d, e, hb, hce⟩ : ∃ a b d e, (a ≤ 30 ∧ b ≤ 30 ∧ d ≤ 30 ∧ e ≤ 30) ∧ c = 29791 * a + 961 * b + 31 * d + e := ⟨_, _, _, _, hq.2, hq.1⟩
    subst hce
    obtain ⟨s1, s2, s3, s4, s5⟩ := zPP_dg hT hb hP
    rcases (show l = 0 ∨ l = 1 ∨ l = 2 ∨ l = 3 by omega) with rfl | rfl | rfl | rfl
    · simp [zco, zp0] at h2
    · simp [zco, zp0] at h2; split at h2 <;> omega
    · simp [zco, zp0] at h2; split at h2 <;> split at h2 <;> omega
    · simp [zco, zp0] at h2; split at h2 <;> split at h2 <;> split at h2 <;> omega
  rw [e]; rfl
theorem zW0 (hT : zTt n I q T zl) (h0 : ∀ v, v < 4 → T v = 0) : zWays n I q m R = @ite Nat (zGl n I q m (fun _ => 0) R) (Classical.propDecidable _) 1 0 := by
  have e := zPc_one (P := zPP n I q m R) (a := 0) (c := 0) (b := 923521) (by decide) (by decide) (fun c h1 h2 hP => by
    have hq := zdg_eq (c := c) (by omega)
    obtain ⟨a, b, d, e, hb, hce⟩ : ∃ a b d e, (a ≤ 30 ∧ b ≤ 30 ∧ d ≤ 30 ∧ e ≤ 30) ∧ c = 29791 * a + 961 * b + 31 * d + e := ⟨_, _, _, _, hq.2, hq.1⟩
    subst hce
    obtain ⟨s1, s2, s3, s4, s5⟩ := zPP_dg hT hb hP
    have := s2.1 (h0 0 (by decide)); have := s3.1 (h0 1 (by decide)); have := s4.1 (h0 2 (by decide)); have := s5.1 (h0 3 (by decide))
    omega)
  have hdg : ∀ v, v < 4 → zdg 0 v = (fun _ => 0 : Nat → Nat) v := fun v hv => by
    rcases (show v = 0 ∨ v = 1 ∨ v = 2 ∨ v = 3 by omega) with rfl | rfl | rfl | rfl <;> decide
  have hi : zPP n I q m R 0 ↔ zGl n I q m (fun _ => 0) R := by
    unfold zPP zP zGl zVd
    rw [zof_cg hT.1 hdg n (Nat.le_refl _), zMa_cg hT.1 hdg]
    refine ⟨fun w => ⟨w.1.2, w.2⟩, fun w => ⟨⟨fun v hv => ?_, w.1⟩, w.2⟩⟩
    rw [hdg v hv, hT.2.1 v hv, h0 v hv]
    exact ⟨fun _ => rfl, fun w => absurd w (by decide)⟩
  unfold zWays
  rw [e, propext hi]
  show 0 + _ = _
  rw [Nat.zero_add]
theorem zsu_le (hp : ∀ v, v < 4 → p v ≤ 30) (hT : ∀ v, v < 4 → T v ≤ 12) : ∀ u, u ≤ 4 → zsu zl p T u ≤ zl + 360 * u
  | 0, _ => Nat.le_refl _
  | u + 1, hu => by
    have ih := zsu_le hp hT u (by omega)
    have := Nat.mul_le_mul (hp u (by omega)) (hT u (by omega))
    rw [zsu]; omega
abbrev pWo (L : List Nat) (G0 : Nat → Nat → Int) (n : Nat) (I : Nat → Nat → Nat) (q m : Nat) (R : Nat → Nat) : x_Q := qI L fun x G' => x = zWays n I q m R ∧ FM [165, 166] [] G0 G' ∧ x_Fin xFL G'
theorem l_mo_wsum {G : Nat → Nat → Int} {Q : x_Q} {w c2 : Int} (hL : x_SL L) (hF : x_Fin xFL G) (hG : mGo n I q m R G) (hT : zTt n I q T zl) (hl : l < 4) (hp4 : ∀ v, v < 4 → p v ≤ 30) (hp : ∀ v, v < l → G 165 v = p v) (hzl : zl ≤ 12)
    (contS : ∀ o7, X mX12_waysOf 1 0 0 Q 154 [some (vR 127), some (vI zl), some (vI l), some (vI w), some (vI c2), some (vI (zsu zl p T l)), some (vI l), o7] [] L G 0 0) :
    ∀ (r u : Nat) (o7 : Option (Nat × Int)), u + r = l → X mX12_waysOf 1 0 0 Q 121 [some (vR 127), some (vI zl), some (vI l), some (vI w), some (vI c2), some (vI (zsu zl p T u)), some (vI u), o7] [] L G 0 0 := by
  have hT12 : ∀ v, v < 4 → T v ≤ 12 := fun v hv => by
    have := zct_le (I := I) (q := q) (u := v) n
    rw [hT.2.1 v hv] at this
    have := hG.2.1; omega
  intro r
  induction r with
  | zero =>
    intro u o7 hu
    have hu : u = l := by omega
    subst hu
    refine x_iload (pc := 121) dX12_waysOf_121 rfl ?_
    refine x_iloadn (pc := 123) dX12_waysOf_123 rfl ?_
    refine x_cge (tgt := 154) (pc := 124) dX12_waysOf_124 (by decide) (by omega) (fun c_124 => ?_) (fun c_124 => ?_)
    rotate_left
    · skip
      exact absurd c_124 (by omega)
    exact contS _
  | succ r ih =>
    intro u o7 hu
    have hs := zsu_le (zl := zl) hp4 hT12 u (by omega)
    have hpu := hp u (by omega)
    have ht := hT.2.1 u (by omega)
    refine x_iload (pc := 121) dX12_waysOf_121 rfl ?_
    refine x_iloadn (pc := 123) dX12_waysOf_123 rfl ?_
    refine x_cge (tgt := 154) (pc := 124) dX12_waysOf_124 (by decide) (by omega) (fun c_124 => ?_) (fun c_124 => ?_)
    · skip
      exact absurd c_124 (by omega)
    refine x_iload (pc := 127) dX12_waysOf_127 rfl ?_
    refine x_aloadn (pc := 129) dX12_waysOf_129 rfl ?_
    refine x_getR (165) (pc := 130) dX12_waysOf_130 fl_X12_123 k_127 (hL 127 (by decide) (by decide)) (f_127_51 hF) ?_
    refine x_iload (pc := 133) dX12_waysOf_133 rfl ?_
    refine x_iald (u) (pc := 135) dX12_waysOf_135 k_165 (hL 165 (by decide) (by decide)) (⟨by omega, by omega, by decide⟩) ?_
    rw [hpu]
    refine x_aloadn (pc := 136) dX12_waysOf_136 rfl ?_
    refine x_iconst (pc := 137) dX12_waysOf_137 ?_
    refine x_iload (pc := 138) dX12_waysOf_138 rfl ?_
    refine x_iadd (pc := 140) dX12_waysOf_140 ?_
    refine x_cVI (pc := 141) dX12_waysOf_141 lk_X12_334 (c_mo_countOf (u := u) hL hF hG rfl (by omega)) k_127 ⟨by decide, rfl⟩ (hL 127 (by decide) (by decide)) (⟨by decide, by decide⟩) (Nat.le_of_ble_eq_true rfl) rfl ?_
    rintro x G' ⟨rfl, rfl⟩
    rw [ht]
    refine x_imul (pc := 144) dX12_waysOf_144 ?_
    refine x_iadd (pc := 145) dX12_waysOf_145 ?_
    refine x_istore (pc := 146) dX12_waysOf_146 (by decide) rfl ?_
    refine x_iinc (pc := 148) dX12_waysOf_148 rfl (by decide) rfl ?_
    refine x_goto (tgt := 121) (pc := 151) dX12_waysOf_151 (by decide) ?_
    have e := ih (u + 1) o7 (by omega)
    rw [zsu] at e
    rw [show ((zsu zl p T u : Nat) : Int) + ((p u : Nat) : Int) * ((T u : Nat) : Int) = ((zsu zl p T u + p u * T u : Nat) : Int) by simp]
    exact e
theorem l_mo_wF {b a s t : Int} {G0 G : Nat → Nat → Int} (hL : x_SL L) (hF : x_Fin xFL G) (hG : mGo n I q m R G) (hT : zTt n I q T zl) (hl : zLa l T) (hD : zDg l T p) (hp : ∀ v, v < l → G 165 v = p v) (hp0 : ∀ v, l < v → v < 4 → G 165 v = 0) (ha : a = m - zsu zl p T l) (hab : -2147483648 ≤ a ∧ a < 2147483648) (hb : (zPc (zPP n I q m R) (zco p) : Int) + b = (zPc (zPP n I q m R) (zco p + zWl l) : Nat)) (hQ : FM [165, 166] [] G0 G)
    (cont : ∀ (p' : Nat → Nat) (G' : Nat → Nat → Int) (o5 o6 o7 : Option (Nat × Int)), zDg l T p' → zco p + zWl l ≤ zco p' → zco p' < 923521 → (∀ v, v < l → G' 165 v = p' v) → (∀ v, l < v → v < 4 → G' 165 v = 0) → mGo n I q m R G' → FM [165, 166] [] G0 G' → x_Fin xFL G' → X mX12_waysOf 1 0 0 (pWo L G0 n I q m R) 110 [some (vR 127), some (vI zl), some (vI l), some (vI (zPc (zPP n I q m R) (zco p'))), some (vI 1), o5, o6, o7] [] L G' 0 0) :
    X mX12_waysOf 1 0 0 (pWo L G0 n I q m R) 222 [some (vR 127), some (vI zl), some (vI l), some (vI (zPc (zPP n I q m R) (zco p))), some (vI 1), some (vI s), some (vI a), some (vI t)] [vI b, vI (zPc (zPP n I q m R) (zco p))] L G 0 0 := by
  refine x_iadd (pc := 222) dX12_waysOf_222 ?_
  rw [hb]
  refine x_istoren (pc := 223) dX12_waysOf_223 rfl (by decide) rfl ?_
  refine x_aloadn (pc := 224) dX12_waysOf_224 rfl ?_
  refine x_iloadn (pc := 225) dX12_waysOf_225 rfl ?_
  refine x_iload (pc := 226) dX12_waysOf_226 rfl ?_
  refine x_cVI (pc := 228) dX12_waysOf_228 lk_X12_340 (c_mo_nextPut (R := R) hL hF hT hl hD hp ha hab) k_127 ⟨by decide, rfl⟩ (hL 127 (by decide) (by decide)) (⟨by decide, by decide⟩) (Nat.le_of_ble_eq_true rfl) rfl ?_
  rintro x G1 ⟨hx, b1, b2, hF⟩
  have hQ1 : FM [165, 166] [] G G1 := b2.mono (by decide) (by decide)
  refine x_istore (pc := 231) dX12_waysOf_231 (by decide) rfl ?_
  refine x_goto (tgt := 110) (pc := 233) dX12_waysOf_233 (by decide) ?_
  rcases hx with ⟨rfl, p', d1, d2, d3, d4, d5⟩ | ⟨rfl, d1⟩
  · rw [← d5]
    exact cont p' G1 _ _ _ d1 d3 d4 d2 (fun v h1 h2 => by rw [b1 v (by omega)]; exact hp0 v h1 h2) (hG.FM hQ1) (hQ.tr hQ1) hF
  · rw [← d1]
    refine x_iload (pc := 110) dX12_waysOf_110 rfl ?_
    refine x_ieq (tgt := 236) (pc := 112) dX12_waysOf_112 (by decide) (by omega) (fun c_112 => ?_) (fun c_112 => absurd rfl c_112)
    refine x_iloadn (pc := 236) dX12_waysOf_236 rfl ?_
    refine x_rI (pc := 237) dX12_waysOf_237 rfl ?_
    exact ⟨rfl, hQ.tr hQ1, hF⟩
theorem l_mo_wE {z : Nat} {a s t : Int} {G0 G : Nat → Nat → Int} (hL : x_SL L) (hF : x_Fin xFL G) (hG : mGo n I q m R G) (hT : zTt n I q T zl) (hl : zLa l T) (hD : zDg l T p) (hp : ∀ v, v < l → G 165 v = p v) (hp0 : ∀ v, l < v → v < 4 → G 165 v = 0) (ha : a = m - zsu zl p T l) (hab : -2147483648 ≤ a ∧ a < 2147483648) (hz1 : 0 < z → zsu zl p T l + z * T l = m) (hz0 : z = 0 → ∀ e, 1 ≤ e → zsu zl p T l + e * T l ≠ m) (hQ : FM [165, 166] [] G0 G)
    (cont : ∀ (p' : Nat → Nat) (G' : Nat → Nat → Int) (o5 o6 o7 : Option (Nat × Int)), zDg l T p' → zco p + zWl l ≤ zco p' → zco p' < 923521 → (∀ v, v < l → G' 165 v = p' v) → (∀ v, l < v → v < 4 → G' 165 v = 0) → mGo n I q m R G' → FM [165, 166] [] G0 G' → x_Fin xFL G' → X mX12_waysOf 1 0 0 (pWo L G0 n I q m R) 110 [some (vR 127), some (vI zl), some (vI l), some (vI (zPc (zPP n I q m R) (zco p'))), some (vI 1), o5, o6, o7] [] L G' 0 0) :
    X mX12_waysOf 1 0 0 (pWo L G0 n I q m R) 199 [some (vR 127), some (vI zl), some (vI l), some (vI (zPc (zPP n I q m R) (zco p))), some (vI 1), some (vI s), some (vI a), some (vI t)] [vI z, vI l, vR 165] L G 0 0 := by
  have hm := hG.2.2.2.2.1
  have hw := zWst (R := R) hT hl hD hm hz1 hz0
  have hl4 := hl.1
  have hz30 : z ≤ 30 := by
    rcases Nat.eq_zero_or_pos z with e | e
    · omega
    · have := hz1 e; have := Nat.le_mul_of_pos_right z hl.2.1; omega
  have hg1 : ∀ v, v < 4 → x_up G 165 l z 165 v = zup p l z v := fun v hv => by
    by_cases e : v = l
    · subst e; rw [zup_s]; exact x_up_s
    · rw [zup_n e, x_up_k e]
      by_cases e2 : v < l
      · exact hp v e2
      · rw [hp0 v (by omega) hv, hD.2 v (by omega)]; rfl
  have hg30 : ∀ v, v < 4 → zup p l z v ≤ 30 := fun v hv => by
    by_cases e : v = l
    · subst e; rw [zup_s]; exact hz30
    · rw [zup_n e]
      by_cases e2 : v < l
      · exact (hD.1 v e2).1
      · rw [hD.2 v (by omega)]; decide
  have hR1 : FM [165, 166] [] G (x_up G 165 l z) := FM.rf.upA (by decide)
  have fin : ∀ (b : Int) (G2 : Nat → Nat → Int), FM [166] [] (x_up G 165 l z) G2 → x_Fin xFL G2 → ((b = 1 ∧ 0 < z ∧ zGl n I q m (zup p l z) R) ∨ (b = 0 ∧ ¬ (0 < z ∧ zGl n I q m (zup p l z) R))) → X mX12_waysOf 1 0 0 (pWo L G0 n I q m R) 222 [some (vR 127), some (vI zl), some (vI l), some (vI (zPc (zPP n I q m R) (zco p))), some (vI 1), some (vI s), some (vI a), some (vI t)] [vI b, vI (zPc (zPP n I q m R) (zco p))] L G2 0 0 := fun b G2 h1 h2 h3 => by
    have h1' : FM [165, 166] [] (x_up G 165 l z) G2 := h1.mono (by decide) (by decide)
    have hk : ∀ v, G2 165 v = x_up G 165 l z 165 v := fun v => h1.at 165 v (by decide) (fun w => absurd w (by decide))
    refine l_mo_wF hL h2 (hG.FM (hR1.tr h1')) hT hl hD (fun v hv => by rw [hk v, x_up_k (by omega)]; exact hp v hv) (fun v w1 w2 => by rw [hk v, x_up_k (by omega)]; exact hp0 v w1 w2) ha hab ?_ (hQ.tr (hR1.tr h1')) cont
    rcases h3 with ⟨rfl, h3⟩ | ⟨rfl, h3⟩
    · rw [hw, if_pos h3]; rfl
    · rw [hw, if_neg h3]; rfl
  refine x_iastF (l) (pc := 199) dX12_waysOf_199 k_165 (hL 165 (by decide) (by decide)) (⟨by omega, by omega, by decide⟩) hF (fun hF => ?_)
  refine x_iloadn (pc := 200) dX12_waysOf_200 rfl ?_
  refine x_aloadn (pc := 201) dX12_waysOf_201 rfl ?_
  refine x_getR (165) (pc := 202) dX12_waysOf_202 fl_X12_123 k_127 (hL 127 (by decide) (by decide)) (f_127_51 hF) ?_
  refine x_iloadn (pc := 205) dX12_waysOf_205 rfl ?_
  refine x_iald (l) (pc := 206) dX12_waysOf_206 k_165 (hL 165 (by decide) (by decide)) (⟨by omega, by omega, by decide⟩) ?_
  rw [x_up_s]
  refine x_ile (tgt := 221) (pc := 207) dX12_waysOf_207 (by decide) (by omega) (fun c_207 => ?_) (fun c_207 => ?_)
  · skip
    refine x_iconst (pc := 221) dX12_waysOf_221 ?_
    first
    | exact fin 0 _ FM.rf hF (Or.inr ⟨rfl, fun w => by omega⟩)
    | (rcases hx with hx | hx
       · first
         | exact fin 1 _ b1 hF (Or.inl ⟨rfl, by omega, hx.2⟩)
         | (exfalso; omega)
       · first
         | exact fin 0 _ b1 hF (Or.inr ⟨rfl, fun w => hx.2 w.2⟩)
         | (exfalso; omega))
  · skip
    refine x_aloadn (pc := 210) dX12_waysOf_210 rfl ?_
    refine x_cVI (pc := 211) dX12_waysOf_211 lk_X12_337 (c_mo_isGoal (p := zup p l z) (R := R) hL hF (hG.FM hR1) hg30 hg1) k_127 ⟨by decide, rfl⟩ (hL 127 (by decide) (by decide)) (⟨by decide, by decide⟩) (Nat.le_of_ble_eq_true rfl) rfl ?_
    rintro x G2 ⟨hx, b1, hF⟩
    refine x_ieq (tgt := 221) (pc := 214) dX12_waysOf_214 (by decide) (by rcases hx with hx | hx <;> omega) (fun c_214 => ?_) (fun c_214 => ?_)
    · skip
      refine x_iconst (pc := 221) dX12_waysOf_221 ?_
      first
      | exact fin 0 _ FM.rf hF (Or.inr ⟨rfl, fun w => by omega⟩)
      | (rcases hx with hx | hx
         · first
           | exact fin 1 _ b1 hF (Or.inl ⟨rfl, by omega, hx.2⟩)
           | (exfalso; omega)
         · first
           | exact fin 0 _ b1 hF (Or.inr ⟨rfl, fun w => hx.2 w.2⟩)
           | (exfalso; omega))
    · skip
      refine x_iconst (pc := 217) dX12_waysOf_217 ?_
      refine x_goto (tgt := 222) (pc := 218) dX12_waysOf_218 (by decide) ?_
      first
      | exact fin 0 _ FM.rf hF (Or.inr ⟨rfl, fun w => by omega⟩)
      | (rcases hx with hx | hx
         · first
           | exact fin 1 _ b1 hF (Or.inl ⟨rfl, by omega, hx.2⟩)
           | (exfalso; omega)
         · first
           | exact fin 0 _ b1 hF (Or.inr ⟨rfl, fun w => hx.2 w.2⟩)
           | (exfalso; omega))
theorem l_mo_wM {G0 G : Nat → Nat → Int} {o7 : Option (Nat × Int)} (hL : x_SL L) (hF : x_Fin xFL G) (hG : mGo n I q m R G) (hT : zTt n I q T zl) (hl : zLa l T) (hD : zDg l T p) (hp : ∀ v, v < l → G 165 v = p v) (hp0 : ∀ v, l < v → v < 4 → G 165 v = 0) (hsl : zsu zl p T l ≤ zl + 360 * l) (hzl : zl ≤ 12) (hT12 : ∀ v, v < 4 → T v ≤ 12) (hQ : FM [165, 166] [] G0 G)
    (cont : ∀ (p' : Nat → Nat) (G' : Nat → Nat → Int) (o5 o6 o7 : Option (Nat × Int)), zDg l T p' → zco p + zWl l ≤ zco p' → zco p' < 923521 → (∀ v, v < l → G' 165 v = p' v) → (∀ v, l < v → v < 4 → G' 165 v = 0) → mGo n I q m R G' → FM [165, 166] [] G0 G' → x_Fin xFL G' → X mX12_waysOf 1 0 0 (pWo L G0 n I q m R) 110 [some (vR 127), some (vI zl), some (vI l), some (vI (zPc (zPP n I q m R) (zco p'))), some (vI 1), o5, o6, o7] [] L G' 0 0) :
    X mX12_waysOf 1 0 0 (pWo L G0 n I q m R) 154 [some (vR 127), some (vI zl), some (vI l), some (vI (zPc (zPP n I q m R) (zco p))), some (vI 1), some (vI (zsu zl p T l)), some (vI l), o7] [] L G 0 0 := by
  obtain ⟨l1, l2, l3⟩ := id hl
  have hm := hG.2.2.2.2.1
  have hgm := hG.2.2.2.1
  have htl := hT.2.1 l l1
  have ht12 := hT12 l l1
  refine x_aloadn (pc := 154) dX12_waysOf_154 rfl ?_
  refine x_getI (pc := 155) dX12_waysOf_155 fl_X12_331 k_127 (hL 127 (by decide) (by decide)) ?_
  refine x_iload (pc := 158) dX12_waysOf_158 rfl ?_
  refine x_isub (pc := 160) dX12_waysOf_160 ?_
  refine x_istore (pc := 161) dX12_waysOf_161 (by decide) rfl ?_
  refine x_aloadn (pc := 163) dX12_waysOf_163 rfl ?_
  refine x_iconst (pc := 164) dX12_waysOf_164 ?_
  refine x_iloadn (pc := 165) dX12_waysOf_165 rfl ?_
  refine x_iadd (pc := 166) dX12_waysOf_166 ?_
  refine x_cVI (pc := 167) dX12_waysOf_167 lk_X12_334 (c_mo_countOf (u := l) hL hF hG rfl (by omega)) k_127 ⟨by decide, rfl⟩ (hL 127 (by decide) (by decide)) (⟨by decide, by decide⟩) (Nat.le_of_ble_eq_true rfl) rfl ?_
  rintro x G' ⟨rfl, rfl⟩
  rw [htl, hgm]
  refine x_istore (pc := 170) dX12_waysOf_170 (by decide) rfl ?_
  refine x_aloadn (pc := 172) dX12_waysOf_172 rfl ?_
  refine x_getR (165) (pc := 173) dX12_waysOf_173 fl_X12_123 k_127 (hL 127 (by decide) (by decide)) (f_127_51 hF) ?_
  refine x_iloadn (pc := 176) dX12_waysOf_176 rfl ?_
  refine x_iload (pc := 177) dX12_waysOf_177 rfl ?_
  refine x_ile (tgt := 198) (pc := 179) dX12_waysOf_179 (by decide) (by omega) (fun c_179 => ?_) (fun c_179 => ?_)
  · skip
    refine x_iconst (pc := 198) dX12_waysOf_198 ?_
    first
    | (refine l_mo_wE (z := 0) hL hF hG hT hl hD hp hp0 rfl (by omega) (fun w => absurd w (by decide)) (fun _ e he w => ?_) hQ cont
       have h9 := Nat.le_mul_of_pos_right e l2
       first
       | (exfalso; omega)
       | (apply c_187
          rw [show (m : Int) - ((zsu zl p T l : Nat) : Int) = (e : Int) * (T l : Int) by omega]
          exact Int.mul_emod_left _ _))
    | (have hq0 : 0 ≤ ((m : Int) - (zsu zl p T l : Nat)) / (T l : Int) := Int.ediv_nonneg (by omega) (by omega)
       obtain ⟨z, hz⟩ : ∃ z : Nat, ((m : Int) - (zsu zl p T l : Nat)) / (T l : Int) = z := ⟨_, (Int.toNat_of_nonneg hq0).symm⟩
       have hzm : (z : Int) * (T l : Int) = (m : Int) - (zsu zl p T l : Nat) := by
         rw [← hz]; exact Int.ediv_mul_cancel (Int.dvd_of_emod_eq_zero c_187)
       have hzp : 0 < z := by
         rcases Nat.eq_zero_or_pos z with e | e
         · rw [e] at hzm; omega
         · exact e
       rw [hz]
       exact l_mo_wE (z := z) hL hF hG hT hl hD hp hp0 rfl (by omega) (fun _ => by omega) (fun w => by omega) hQ cont)
  · skip
    refine x_iload (pc := 182) dX12_waysOf_182 rfl ?_
    refine x_iload (pc := 184) dX12_waysOf_184 rfl ?_
    refine x_irem (pc := 186) dX12_waysOf_186 (by omega) ?_
    refine x_ine (tgt := 198) (pc := 187) dX12_waysOf_187 (by decide) (by have := Int.emod_lt_of_pos ((m : Int) - (zsu zl p T l : Nat)) (show (0 : Int) < T l by omega); have := Int.emod_nonneg ((m : Int) - (zsu zl p T l : Nat)) (show (T l : Int) ≠ 0 by omega); omega) (fun c_187 => ?_) (fun c_187 => ?_)
    · skip
      refine x_iconst (pc := 198) dX12_waysOf_198 ?_
      first
      | (refine l_mo_wE (z := 0) hL hF hG hT hl hD hp hp0 rfl (by omega) (fun w => absurd w (by decide)) (fun _ e he w => ?_) hQ cont
         have h9 := Nat.le_mul_of_pos_right e l2
         first
         | (exfalso; omega)
         | (apply c_187
            rw [show (m : Int) - ((zsu zl p T l : Nat) : Int) = (e : Int) * (T l : Int) by omega]
            exact Int.mul_emod_left _ _))
      | (have hq0 : 0 ≤ ((m : Int) - (zsu zl p T l : Nat)) / (T l : Int) := Int.ediv_nonneg (by omega) (by omega)
         obtain ⟨z, hz⟩ : ∃ z : Nat, ((m : Int) - (zsu zl p T l : Nat)) / (T l : Int) = z := ⟨_, (Int.toNat_of_nonneg hq0).symm⟩
         have hzm : (z : Int) * (T l : Int) = (m : Int) - (zsu zl p T l : Nat) := by
           rw [← hz]; exact Int.ediv_mul_cancel (Int.dvd_of_emod_eq_zero c_187)
         have hzp : 0 < z := by
           rcases Nat.eq_zero_or_pos z with e | e
           · rw [e] at hzm; omega
           · exact e
         rw [hz]
         exact l_mo_wE (z := z) hL hF hG hT hl hD hp hp0 rfl (by omega) (fun _ => by omega) (fun w => by omega) hQ cont)
    · skip
      refine x_iload (pc := 190) dX12_waysOf_190 rfl ?_
      refine x_iload (pc := 192) dX12_waysOf_192 rfl ?_
      refine x_idiv (pc := 194) dX12_waysOf_194 (by omega) ?_
      refine x_goto (tgt := 199) (pc := 195) dX12_waysOf_195 (by decide) ?_
      first
      | (refine l_mo_wE (z := 0) hL hF hG hT hl hD hp hp0 rfl (by omega) (fun w => absurd w (by decide)) (fun _ e he w => ?_) hQ cont
         have h9 := Nat.le_mul_of_pos_right e l2
         first
         | (exfalso; omega)
         | (apply c_187
            rw [show (m : Int) - ((zsu zl p T l : Nat) : Int) = (e : Int) * (T l : Int) by omega]
            exact Int.mul_emod_left _ _))
      | (have hq0 : 0 ≤ ((m : Int) - (zsu zl p T l : Nat)) / (T l : Int) := Int.ediv_nonneg (by omega) (by omega)
         obtain ⟨z, hz⟩ : ∃ z : Nat, ((m : Int) - (zsu zl p T l : Nat)) / (T l : Int) = z := ⟨_, (Int.toNat_of_nonneg hq0).symm⟩
         have hzm : (z : Int) * (T l : Int) = (m : Int) - (zsu zl p T l : Nat) := by
           rw [← hz]; exact Int.ediv_mul_cancel (Int.dvd_of_emod_eq_zero c_187)
         have hzp : 0 < z := by
           rcases Nat.eq_zero_or_pos z with e | e
           · rw [e] at hzm; omega
           · exact e
         rw [hz]
         exact l_mo_wE (z := z) hL hF hG hT hl hD hp hp0 rfl (by omega) (fun _ => by omega) (fun w => by omega) hQ cont)
theorem l_mo_wL {G0 : Nat → Nat → Int} (hL : x_SL L) (hT : zTt n I q T zl) (hl : zLa l T) (hzl : zl ≤ 12) :
    ∀ (f : Nat) (p : Nat → Nat) (G : Nat → Nat → Int) (o5 o6 o7 : Option (Nat × Int)), 923521 ≤ zco p + f → zDg l T p → zco p < 923521 → (∀ v, v < l → G 165 v = p v) → (∀ v, l < v → v < 4 → G 165 v = 0) → mGo n I q m R G → FM [165, 166] [] G0 G → x_Fin xFL G →
    X mX12_waysOf 1 0 0 (pWo L G0 n I q m R) 110 [some (vR 127), some (vI zl), some (vI l), some (vI (zPc (zPP n I q m R) (zco p))), some (vI 1), o5, o6, o7] [] L G 0 0 := by
  intro f
  induction f with
  | zero => intro p G o5 o6 o7 h1 _ h2; omega
  | succ f ih =>
    intro p G o5 o6 o7 hf hD hc hp hp0 hG hQ hF
    obtain ⟨l1, l2, l3⟩ := id hl
    have hW : 31 ≤ zWl l := by unfold zWl; split; omega; split; omega; split <;> omega
    have cont : ∀ (p' : Nat → Nat) (G' : Nat → Nat → Int) (o5 o6 o7 : Option (Nat × Int)), zDg l T p' → zco p + zWl l ≤ zco p' → zco p' < 923521 → (∀ v, v < l → G' 165 v = p' v) → (∀ v, l < v → v < 4 → G' 165 v = 0) → mGo n I q m R G' → FM [165, 166] [] G0 G' → x_Fin xFL G' → X mX12_waysOf 1 0 0 (pWo L G0 n I q m R) 110 [some (vR 127), some (vI zl), some (vI l), some (vI (zPc (zPP n I q m R) (zco p'))), some (vI 1), o5, o6, o7] [] L G' 0 0 := fun p' G' o5 o6 o7 a1 a2 a3 a4 a5 a6 a7 a8 => ih p' G' o5 o6 o7 (by omega) a1 a3 a4 a5 a6 a7 a8
    have hp30 : ∀ v, v < 4 → p v ≤ 30 := fun v hv => by
      by_cases e2 : v < l
      · exact (hD.1 v e2).1
      · rw [hD.2 v (by omega)]; decide
    have hT12 : ∀ v, v < 4 → T v ≤ 12 := fun v hv => by
      have := zct_le (I := I) (q := q) (u := v) n
      rw [hT.2.1 v hv] at this
      have := hG.2.1; omega
    have hsl := zsu_le (zl := zl) hp30 hT12 l (by omega)
    have hm := hG.2.2.2.2.1
    have hgm := hG.2.2.2.1
    have htl := hT.2.1 l l1
    refine x_iload (pc := 110) dX12_waysOf_110 rfl ?_
    refine x_ieq (tgt := 236) (pc := 112) dX12_waysOf_112 (by decide) (by omega) (fun c_112 => ?_) (fun c_112 => ?_)
    · skip
      exact absurd c_112 (by decide)
    refine x_iloadn (pc := 115) dX12_waysOf_115 rfl ?_
    refine x_istore (pc := 116) dX12_waysOf_116 (by decide) rfl ?_
    refine x_iconst (pc := 118) dX12_waysOf_118 ?_
    refine x_istore (pc := 119) dX12_waysOf_119 (by decide) rfl ?_
    refine l_mo_wsum (p := p) hL hF hG hT l1 hp30 hp hzl (fun o7 => ?_) l 0 _ (by omega)
    exact l_mo_wM hL hF hG hT hl hD hp hp0 hsl hzl hT12 hQ cont
theorem l_mo_w40 {G0 : Nat → Nat → Int} (hL : x_SL L) (hG0 : mGo n I q m R G0) (hT : zTt n I q T zl) (hzl : zl ≤ 12) :
    ∀ (r i : Nat) (G : Nat → Nat → Int), i + r = 4 → (∀ v, v < i → G 165 v = (if 0 < T v then 1 else 0 : Nat)) → FM [165, 166] [] G0 G → x_Fin xFL G →
    X mX12_waysOf 1 0 0 (pWo L G0 n I q m R) 40 [some (vR 127), some (vI zl), some (vI (zls T i)), some (vI i), none, none, none, none] [] L G 0 0 := by
  intro r
  induction r with
  | zero =>
    intro i G hi hp hQ hF
    have hi : i = 4 := by omega
    subst hi
    have hG := hG0.FM hQ
    rcases zls_sp (T := T) 4 with ⟨e1, e2⟩ | ⟨l, e1, e2, e3, e4⟩
    · rw [e1]
      have hw := zW0 (m := m) (R := R) hT e2
      refine x_iloadn (pc := 40) dX12_waysOf_40 rfl ?_
      refine x_iconst (pc := 41) dX12_waysOf_41 ?_
      refine x_cge (tgt := 87) (pc := 42) dX12_waysOf_42 (by decide) (by omega) (fun c_42 => ?_) (fun c_42 => ?_)
      rotate_left
      · skip
        exact absurd c_42 (by decide)
      refine x_iloadn (pc := 87) dX12_waysOf_87 rfl ?_
      refine x_iconst (pc := 88) dX12_waysOf_88 ?_
      refine x_cne (tgt := 105) (pc := 89) dX12_waysOf_89 (by decide) (by omega) (fun c_89 => ?_) (fun c_89 => ?_)
      · skip
        exact absurd rfl c_89
      refine x_aloadn (pc := 92) dX12_waysOf_92 rfl ?_
      refine x_cVI (pc := 93) dX12_waysOf_93 lk_X12_337 (c_mo_isGoal (p := fun _ => 0) (R := R) hL hF hG (fun v hv => Nat.zero_le _) (fun v hv => by rw [hp v hv, if_neg (by have := e2 v hv; omega)])) k_127 ⟨by decide, rfl⟩ (hL 127 (by decide) (by decide)) (⟨by decide, by decide⟩) (Nat.le_of_ble_eq_true rfl) rfl ?_
      rintro x G2 ⟨hx, b1, hF⟩
      refine x_ieq (tgt := 103) (pc := 96) dX12_waysOf_96 (by decide) (by rcases hx with hx | hx <;> omega) (fun c_96 => ?_) (fun c_96 => ?_)
      · skip
        refine x_iconst (pc := 103) dX12_waysOf_103 ?_
        refine x_rI (pc := 104) dX12_waysOf_104 rfl ?_
        refine ⟨?_, hQ.tr (b1.mono (by decide) (by decide)), hF⟩
        rcases hx with hx | hx
        · first
          | (exfalso; omega)
          | (rw [hw, if_pos hx.2]; rfl)
        · first
          | (exfalso; omega)
          | (rw [hw, if_neg hx.2]; rfl)
      · skip
        refine x_iconst (pc := 99) dX12_waysOf_99 ?_
        refine x_goto (tgt := 104) (pc := 100) dX12_waysOf_100 (by decide) ?_
        refine x_rI (pc := 104) dX12_waysOf_104 rfl ?_
        refine ⟨?_, hQ.tr (b1.mono (by decide) (by decide)), hF⟩
        rcases hx with hx | hx
        · first
          | (exfalso; omega)
          | (rw [hw, if_pos hx.2]; rfl)
        · first
          | (exfalso; omega)
          | (rw [hw, if_neg hx.2]; rfl)
    · rw [e1]
      have hl : zLa l T := ⟨e2, e3, e4⟩
      have hpc := zp0_pc (m := m) (R := R) hT hl
      have hlt : zco (zp0 T l) < 923521 := by
        have h01 : ∀ v, zp0 T l v ≤ 1 := fun v => by unfold zp0; split; split <;> omega; omega
        have := h01 0; have := h01 1; have := h01 2; have := h01 3
        unfold zco; omega
      have key := fun o5 o6 o7 => l_mo_wL (G0 := G0) (R := R) (m := m) hL hT hl hzl 923521 (zp0 T l) G o5 o6 o7 (by omega) (zp0_dg l) hlt (fun v hv => by rw [hp v (by omega)]; unfold zp0; rw [if_pos hv]) (fun v h1 h2 => by rw [hp v h2, if_neg (by have := e4 v h1 h2; omega)]; rfl) hG hQ hF
      rw [hpc] at key
      refine x_iloadn (pc := 40) dX12_waysOf_40 rfl ?_
      refine x_iconst (pc := 41) dX12_waysOf_41 ?_
      refine x_cge (tgt := 87) (pc := 42) dX12_waysOf_42 (by decide) (by omega) (fun c_42 => ?_) (fun c_42 => ?_)
      rotate_left
      · skip
        exact absurd c_42 (by decide)
      refine x_iloadn (pc := 87) dX12_waysOf_87 rfl ?_
      refine x_iconst (pc := 88) dX12_waysOf_88 ?_
      refine x_cne (tgt := 105) (pc := 89) dX12_waysOf_89 (by decide) (by omega) (fun c_89 => ?_) (fun c_89 => ?_)
      rotate_left
      · skip
        exact absurd c_89 (by omega)
      refine x_iconst (pc := 105) dX12_waysOf_105 ?_
      refine x_istoren (pc := 106) dX12_waysOf_106 rfl (by decide) rfl ?_
      refine x_iconst (pc := 107) dX12_waysOf_107 ?_
      refine x_istore (pc := 108) dX12_waysOf_108 (by decide) rfl ?_
      exact key _ _ _
  | succ r ih =>
    intro i G hi hp hQ hF
    have hG := hG0.FM hQ
    have ht := hT.2.1 i (by omega)
    have hti := zct_le (I := I) (q := q) (u := i) n
    have hn := hG.2.1
    have hzs : zls T (i + 1) = if 0 < T i then (i : Int) else zls T i := rfl
    have hup : ∀ (b : Nat), b = (if 0 < T i then 1 else 0) → ∀ v, v < i + 1 → x_up G 165 i (b : Int) 165 v = (if 0 < T v then 1 else 0 : Nat) := fun b hb v hv => by
      by_cases e : v = i
      · subst e; rw [x_up_s, hb]
      · rw [x_up_k e]; exact hp v (by omega)
    refine x_iloadn (pc := 40) dX12_waysOf_40 rfl ?_
    refine x_iconst (pc := 41) dX12_waysOf_41 ?_
    refine x_cge (tgt := 87) (pc := 42) dX12_waysOf_42 (by decide) (by omega) (fun c_42 => ?_) (fun c_42 => ?_)
    · skip
      exact absurd c_42 (by omega)
    refine x_aloadn (pc := 45) dX12_waysOf_45 rfl ?_
    refine x_getR (165) (pc := 46) dX12_waysOf_46 fl_X12_123 k_127 (hL 127 (by decide) (by decide)) (f_127_51 hF) ?_
    refine x_iloadn (pc := 49) dX12_waysOf_49 rfl ?_
    refine x_aloadn (pc := 50) dX12_waysOf_50 rfl ?_
    refine x_iconst (pc := 51) dX12_waysOf_51 ?_
    refine x_iloadn (pc := 52) dX12_waysOf_52 rfl ?_
    refine x_iadd (pc := 53) dX12_waysOf_53 ?_
    refine x_cVI (pc := 54) dX12_waysOf_54 lk_X12_334 (c_mo_countOf (u := i) hL hF hG rfl (by omega)) k_127 ⟨by decide, rfl⟩ (hL 127 (by decide) (by decide)) (⟨by decide, by decide⟩) (Nat.le_of_ble_eq_true rfl) rfl ?_
    rintro x G' ⟨rfl, rfl⟩
    rw [ht]
    refine x_ile (tgt := 64) (pc := 57) dX12_waysOf_57 (by decide) (by omega) (fun c_57 => ?_) (fun c_57 => ?_)
    · skip
      refine x_iconst (pc := 64) dX12_waysOf_64 ?_
      refine x_iastF (i) (pc := 65) dX12_waysOf_65 k_165 (hL 165 (by decide) (by decide)) (⟨by omega, by omega, by decide⟩) hF (fun hF => ?_)
      refine x_aloadn (pc := 66) dX12_waysOf_66 rfl ?_
      refine x_getR (165) (pc := 67) dX12_waysOf_67 fl_X12_123 k_127 (hL 127 (by decide) (by decide)) (f_127_51 hF) ?_
      refine x_iloadn (pc := 70) dX12_waysOf_70 rfl ?_
      refine x_iald (i) (pc := 71) dX12_waysOf_71 k_165 (hL 165 (by decide) (by decide)) (⟨by omega, by omega, by decide⟩) ?_
      rw [x_up_s]
      refine x_ile (tgt := 79) (pc := 72) dX12_waysOf_72 (by decide) (by omega) (fun c_72 => ?_) (fun c_72 => ?_)
      · skip
        refine x_iloadn (pc := 79) dX12_waysOf_79 rfl ?_
        refine x_istoren (pc := 80) dX12_waysOf_80 rfl (by decide) rfl ?_
        refine x_iinc (pc := 81) dX12_waysOf_81 rfl (by decide) rfl ?_
        refine x_goto (tgt := 40) (pc := 84) dX12_waysOf_84 (by decide) ?_
        by_cases cT : 0 < T i
        · rw [if_pos cT] at hzs
          first
          | (exfalso; omega)
          | (have e := ih (i + 1) _ (by omega) (hup 1 (by rw [if_pos cT])) (hQ.upA (by decide)) hF
             rw [hzs] at e
             exact e)
        · rw [if_neg cT] at hzs
          first
          | (exfalso; omega)
          | (have e := ih (i + 1) _ (by omega) (hup 0 (by rw [if_neg cT])) (hQ.upA (by decide)) hF
             rw [hzs] at e
             exact e)
      · skip
        refine x_iloadn (pc := 75) dX12_waysOf_75 rfl ?_
        refine x_goto (tgt := 80) (pc := 76) dX12_waysOf_76 (by decide) ?_
        refine x_istoren (pc := 80) dX12_waysOf_80 rfl (by decide) rfl ?_
        refine x_iinc (pc := 81) dX12_waysOf_81 rfl (by decide) rfl ?_
        refine x_goto (tgt := 40) (pc := 84) dX12_waysOf_84 (by decide) ?_
        by_cases cT : 0 < T i
        · rw [if_pos cT] at hzs
          first
          | (exfalso; omega)
          | (have e := ih (i + 1) _ (by omega) (hup 1 (by rw [if_pos cT])) (hQ.upA (by decide)) hF
             rw [hzs] at e
             exact e)
        · rw [if_neg cT] at hzs
          first
          | (exfalso; omega)
          | (have e := ih (i + 1) _ (by omega) (hup 0 (by rw [if_neg cT])) (hQ.upA (by decide)) hF
             rw [hzs] at e
             exact e)
    · skip
      refine x_iconst (pc := 60) dX12_waysOf_60 ?_
      refine x_goto (tgt := 65) (pc := 61) dX12_waysOf_61 (by decide) ?_
      refine x_iastF (i) (pc := 65) dX12_waysOf_65 k_165 (hL 165 (by decide) (by decide)) (⟨by omega, by omega, by decide⟩) hF (fun hF => ?_)
      refine x_aloadn (pc := 66) dX12_waysOf_66 rfl ?_
      refine x_getR (165) (pc := 67) dX12_waysOf_67 fl_X12_123 k_127 (hL 127 (by decide) (by decide)) (f_127_51 hF) ?_
      refine x_iloadn (pc := 70) dX12_waysOf_70 rfl ?_
      refine x_iald (i) (pc := 71) dX12_waysOf_71 k_165 (hL 165 (by decide) (by decide)) (⟨by omega, by omega, by decide⟩) ?_
      rw [x_up_s]
      refine x_ile (tgt := 79) (pc := 72) dX12_waysOf_72 (by decide) (by omega) (fun c_72 => ?_) (fun c_72 => ?_)
      · skip
        refine x_iloadn (pc := 79) dX12_waysOf_79 rfl ?_
        refine x_istoren (pc := 80) dX12_waysOf_80 rfl (by decide) rfl ?_
        refine x_iinc (pc := 81) dX12_waysOf_81 rfl (by decide) rfl ?_
        refine x_goto (tgt := 40) (pc := 84) dX12_waysOf_84 (by decide) ?_
        by_cases cT : 0 < T i
        · rw [if_pos cT] at hzs
          first
          | (exfalso; omega)
          | (have e := ih (i + 1) _ (by omega) (hup 1 (by rw [if_pos cT])) (hQ.upA (by decide)) hF
             rw [hzs] at e
             exact e)
        · rw [if_neg cT] at hzs
          first
          | (exfalso; omega)
          | (have e := ih (i + 1) _ (by omega) (hup 0 (by rw [if_neg cT])) (hQ.upA (by decide)) hF
             rw [hzs] at e
             exact e)
      · skip
        refine x_iloadn (pc := 75) dX12_waysOf_75 rfl ?_
        refine x_goto (tgt := 80) (pc := 76) dX12_waysOf_76 (by decide) ?_
        refine x_istoren (pc := 80) dX12_waysOf_80 rfl (by decide) rfl ?_
        refine x_iinc (pc := 81) dX12_waysOf_81 rfl (by decide) rfl ?_
        refine x_goto (tgt := 40) (pc := 84) dX12_waysOf_84 (by decide) ?_
        by_cases cT : 0 < T i
        · rw [if_pos cT] at hzs
          first
          | (exfalso; omega)
          | (have e := ih (i + 1) _ (by omega) (hup 1 (by rw [if_pos cT])) (hQ.upA (by decide)) hF
             rw [hzs] at e
             exact e)
        · rw [if_neg cT] at hzs
          first
          | (exfalso; omega)
          | (have e := ih (i + 1) _ (by omega) (hup 0 (by rw [if_neg cT])) (hQ.upA (by decide)) hF
             rw [hzs] at e
             exact e)
theorem l_mo_w6 {G : Nat → Nat → Int} (hL : x_SL L) (hF : x_Fin xFL G) (hG : mGo n I q m R G) :
    ∀ (r i : Nat), i + r = n → X mX12_waysOf 1 0 0 (pWo L G n I q m R) 6 [some (vR 127), some (vI (zlc I q i)), some (vI (-1)), some (vI i), none, none, none, none] [] L G 0 0 := by
  obtain ⟨h1, h2, h3, h4, h5, h6⟩ := id hG
  have hT : zTt n I q (fun v => zct I q v n) (zlc I q n) := ⟨fun j hj => (h3 j hj).2, fun _ _ => rfl, rfl⟩
  have hzl := zlc_le (I := I) (q := q) n
  intro r
  induction r with
  | zero =>
    intro i hi
    have hi : i = n := by omega
    subst hi
    refine x_iloadn (pc := 6) dX12_waysOf_6 rfl ?_
    refine x_aloadn (pc := 7) dX12_waysOf_7 rfl ?_
    refine x_getI (pc := 8) dX12_waysOf_8 fl_X12_328 k_127 (hL 127 (by decide) (by decide)) ?_
    refine x_cge (tgt := 38) (pc := 11) dX12_waysOf_11 (by decide) (by omega) (fun c_11 => ?_) (fun c_11 => ?_)
    rotate_left
    · skip
      exact absurd c_11 (by omega)
    refine x_iconst (pc := 38) dX12_waysOf_38 ?_
    refine x_istoren (pc := 39) dX12_waysOf_39 rfl (by decide) rfl ?_
    exact l_mo_w40 (R := R) hL hG hT (by omega) 4 0 G (by omega) (fun v hv => absurd hv (Nat.not_lt_zero v)) FM.rf hF
  | succ r ih =>
    intro i hi
    obtain ⟨e1, e2, e3⟩ := h3 i (by omega)
    have hc : zlc I q (i + 1) = zlc I q i + (if I q i < 4 then 1 else 0) := rfl
    have hct := zlc_le (I := I) (q := q) i
    refine x_iloadn (pc := 6) dX12_waysOf_6 rfl ?_
    refine x_aloadn (pc := 7) dX12_waysOf_7 rfl ?_
    refine x_getI (pc := 8) dX12_waysOf_8 fl_X12_328 k_127 (hL 127 (by decide) (by decide)) ?_
    refine x_cge (tgt := 38) (pc := 11) dX12_waysOf_11 (by decide) (by omega) (fun c_11 => ?_) (fun c_11 => ?_)
    · skip
      exact absurd c_11 (by omega)
    refine x_iloadn (pc := 14) dX12_waysOf_14 rfl ?_
    refine x_aloadn (pc := 15) dX12_waysOf_15 rfl ?_
    refine x_getR (164) (pc := 16) dX12_waysOf_16 fl_X12_120 k_127 (hL 127 (by decide) (by decide)) (f_127_49 hF) ?_
    refine x_iloadn (pc := 19) dX12_waysOf_19 rfl ?_
    refine x_iald (i) (pc := 20) dX12_waysOf_20 k_164 (hL 164 (by decide) (by decide)) (⟨by omega, by omega, by decide⟩) ?_
    refine x_iconst (pc := 21) dX12_waysOf_21 ?_
    refine x_cge (tgt := 29) (pc := 22) dX12_waysOf_22 (by decide) (by omega) (fun c_22 => ?_) (fun c_22 => ?_)
    · skip
      refine x_iconst (pc := 29) dX12_waysOf_29 ?_
      refine x_iadd (pc := 30) dX12_waysOf_30 ?_
      refine x_istoren (pc := 31) dX12_waysOf_31 rfl (by decide) rfl ?_
      refine x_iinc (pc := 32) dX12_waysOf_32 rfl (by decide) rfl ?_
      refine x_goto (tgt := 6) (pc := 35) dX12_waysOf_35 (by decide) ?_
      have e := ih (i + 1) (by omega)
      rw [hc] at e
      first
      | (rw [if_pos (by omega)] at e; exact e)
      | (rw [if_neg (by omega)] at e; rw [Int.add_zero]; exact e)
    · skip
      refine x_iconst (pc := 25) dX12_waysOf_25 ?_
      refine x_goto (tgt := 30) (pc := 26) dX12_waysOf_26 (by decide) ?_
      refine x_iadd (pc := 30) dX12_waysOf_30 ?_
      refine x_istoren (pc := 31) dX12_waysOf_31 rfl (by decide) rfl ?_
      refine x_iinc (pc := 32) dX12_waysOf_32 rfl (by decide) rfl ?_
      refine x_goto (tgt := 6) (pc := 35) dX12_waysOf_35 (by decide) ?_
      have e := ih (i + 1) (by omega)
      rw [hc] at e
      first
      | (rw [if_pos (by omega)] at e; exact e)
      | (rw [if_neg (by omega)] at e; rw [Int.add_zero]; exact e)
theorem c_mo_waysOf {G : Nat → Nat → Int} (hL : x_SL L) (hF : x_Fin xFL G) (hG : mGo n I q m R G) :
    CM yX12_waysOf mX12_waysOf 1 0 0 [vR 127] L G (pWo L G n I q m R) := by
  refine Ct.of_X (μ := mX12_waysOf) rfl rfl (by decide) (fun h => by cases h) (Nat.le_of_ble_eq_true rfl) rfl ?_
  refine x_iconst (pc := 0) dX12_waysOf_0 ?_
  refine x_istoren (pc := 1) dX12_waysOf_1 rfl (by decide) rfl ?_
  refine x_iconst (pc := 2) dX12_waysOf_2 ?_
  refine x_istoren (pc := 3) dX12_waysOf_3 rfl (by decide) rfl ?_
  refine x_iconst (pc := 4) dX12_waysOf_4 ?_
  refine x_istoren (pc := 5) dX12_waysOf_5 rfl (by decide) rfl ?_
  exact l_mo_w6 hL hF hG n 0 (by omega)
end XWO

