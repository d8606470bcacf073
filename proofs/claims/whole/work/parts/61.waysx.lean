/-! patterns making rows: the class's outer loops, its count -/
section XWX
variable {r n m t N T0 T1 T2 T3 zl w x : Nat} {I : Nat → Nat → Nat} {q : Nat} {R : Nat → Nat} {L : List Nat} {G0 : Nat → Nat → Int} {Q : x_Q}
theorem zenY {y : Nat} (hT : zTs n I q T0 T1 T2 T3 zl) (hz : ∀ j, j < n → zV (I q j)) (hw : w ≤ 30) (hx : x ≤ 30) (hy : y = if 0 < T2 then 1 else 0) : zPc (zPP n I q m R) (29791 * w + 961 * x) = zPc (zPP n I q m R) (29791 * w + 961 * x + 31 * y) := by
  have hy1 : y ≤ 1 := by split at hy <;> omega
  refine (zPc_skip _ (by omega) (fun c h1 h2 hP => ?_)).symm
  obtain ⟨a, b, d, e, hbd, hce, hs⟩ := zPP_sm hT hz (by omega) hP
  obtain ⟨s1, s2, s3, s4, s5⟩ := hs
  split at hy <;> omega
theorem zenX {x : Nat} (hT : zTs n I q T0 T1 T2 T3 zl) (hz : ∀ j, j < n → zV (I q j)) (hw : w ≤ 30) (hx : x = if 0 < T1 then 1 else 0) : zPc (zPP n I q m R) (29791 * w) = zPc (zPP n I q m R) (29791 * w + 961 * x) := by
  have hx1 : x ≤ 1 := by split at hx <;> omega
  refine (zPc_skip _ (by omega) (fun c h1 h2 hP => ?_)).symm
  obtain ⟨a, b, d, e, hbd, hce, hs⟩ := zPP_sm hT hz (by omega) hP
  obtain ⟨s1, s2, s3, s4, s5⟩ := hs
  split at hx <;> omega
theorem zenW {w : Nat} (hT : zTs n I q T0 T1 T2 T3 zl) (hz : ∀ j, j < n → zV (I q j)) (hw : w = if 0 < T0 then 1 else 0) : 0 = zPc (zPP n I q m R) (29791 * w) := by
  have hw1 : w ≤ 1 := by split at hw <;> omega
  have e : zPc (zPP n I q m R) (29791 * w) = zPc (zPP n I q m R) 0 := by
    refine zPc_skip _ (by omega) (fun c h1 h2 hP => ?_)
    obtain ⟨a, b, d, e, hbd, hce, hs⟩ := zPP_sm hT hz (by omega) hP
    obtain ⟨s1, s2, s3, s4, s5⟩ := hs
    split at hw <;> omega
  rw [e]; rfl
theorem zskX {bw M : Int} (hT : zTs n I q T0 T1 T2 T3 zl) (hz : ∀ j, j < n → zV (I q j)) (hw : w ≤ 30) (hx : x ≤ 31) (hb : bw = m - zl - w * T0) (hM : zMst T1 bw M) (hc : M < x) : zPc (zPP n I q m R) (29791 * w + 961 * x) = zPc (zPP n I q m R) (29791 * (w + 1)) := by
  refine (zPc_skip _ (by omega) (fun c h1 h2 hP => ?_)).symm
  obtain ⟨a, b, d, e, hbd, hce, hs⟩ := zPP_sm hT hz (by omega) hP
  have ea : a = w := by omega
  subst ea
  obtain ⟨s1, s2, s3, s4, s5⟩ := hs
  obtain ⟨m1, m2, m3⟩ := hM
  have hn0 : 0 ≤ e * T3 := Nat.zero_le _
  have hn1 : 0 ≤ d * T2 := Nat.zero_le _
  by_cases t2 : T1 = 0
  · have := m1 t2; have := s3.1 t2; omega
  · have hd := s3.2 (by omega)
    have hm : ¬ ((b : Int) * T1 ≤ bw) := fun w => absurd ((m2 (by omega) b hd).mpr w) (by omega)
    omega
theorem zskW {room M : Int} (hT : zTs n I q T0 T1 T2 T3 zl) (hz : ∀ j, j < n → zV (I q j)) (hw : w ≤ 31) (hb : room = (m : Int) - zl) (hM : zMst T0 room M) (hc : M < w) : zPc (zPP n I q m R) (29791 * w) = zWays n I q m R := by
  refine (zPc_skip _ (by omega) (fun c h1 h2 hP => ?_)).symm
  obtain ⟨a, b, d, e, hbd, hce, hs⟩ := zPP_sm hT hz (by omega) hP
  obtain ⟨s1, s2, s3, s4, s5⟩ := hs
  obtain ⟨m1, m2, m3⟩ := hM
  have hn0 : 0 ≤ e * T3 := Nat.zero_le _
  have hn1 : 0 ≤ d * T2 := Nat.zero_le _
  have hn2 : 0 ≤ b * T1 := Nat.zero_le _
  by_cases t2 : T0 = 0
  · have := m1 t2; have := s2.1 t2; omega
  · have hd := s2.2 (by omega)
    have hm : ¬ ((a : Int) * T0 ≤ room) := fun w => absurd ((m2 (by omega) a hd).mpr w) (by omega)
    omega
theorem l_Sd_wx (h : xSd r) (hL : x_SL L) (hS : cSd r n I q G0) (ht : xK t = (13, N)) (htL : t ∈ L) (hmN : m ≤ N) (hN : N ≤ 30) (hR : ∀ j, j < m → G0 t j = R j ∧ R j < 8) (htr : t ≠ r + 4 ∧ t ≠ r + 3) (hT : zTs n I q T0 T1 T2 T3 zl) (hw : w ≤ 30) (hwT : (T0 = 0 → w = 0) ∧ (0 < T0 → 1 ≤ w)) {bw : Int} (hbw : bw = m - zl - w * T0)
    (cont : ∀ (G : Nat → Nat → Int) (o7 o8 o9 o10 o11 : Option (Nat × Int)), FR [r + 3, r + 4] G0 G → x_Fin xFL G → X mX8_waysToMake 2 0 0 Q 179 [some (vR r), some (vR t), some (vI m), some (vI ((m : Int) - zl)), some (vI (zPc (zPP n I q m R) (29791 * (w + 1)))), some (vI w), some (vI bw), o7, o8, o9, o10, o11] [] L G 0 0) :
    ∀ (k x : Nat) (G : Nat → Nat → Int) (o8 o9 o10 o11 : Option (Nat × Int)), x + k = 31 → (0 < T1 → 1 ≤ x) → FR [r + 3, r + 4] G0 G → x_Fin xFL G →
    X mX8_waysToMake 2 0 0 Q 48 [some (vR r), some (vR t), some (vI m), some (vI ((m : Int) - zl)), some (vI (zPc (zPP n I q m R) (29791 * w + 961 * x))), some (vI w), some (vI bw), some (vI x), o8, o9, o10, o11] [] L G 0 0 := by
  obtain ⟨⟨t0, t1⟩, ⟨t2, t3⟩, t4⟩ := id hT
  obtain ⟨s1, s2, s3, s4, s5⟩ := id hS
  have hz : ∀ j, j < n → zV (I q j) := fun j hj => (s3 j hj).2
  have n0 : w * T0 ≤ 30 * 12 := Nat.mul_le_mul hw (by have := zct_le (I := I) (q := q) (u := 0) n; omega)
  have hT1 : T1 ≤ 12 := by have := zct_le (I := I) (q := q) (u := 1) n; omega
  have hzl := zlc_le (I := I) (q := q) n
  intro k
  induction k with
  | zero =>
    intro x G o8 o9 o10 o11 hx hxT hQ hF
    have hS' := hS.FR hQ (by simp) (by simp) (by simp)
    refine x_iload (pc := 48) dX8_waysToMake_48 rfl ?_
    refine x_aloadn (pc := 50) dX8_waysToMake_50 rfl ?_
    refine x_iconst (pc := 51) dX8_waysToMake_51 ?_
    refine x_iload (pc := 52) dX8_waysToMake_52 rfl ?_
    refine x_cVI (pc := 54) dX8_waysToMake_54 lk_X8_55 (c_Sd_most (u := 1) h hL hF hS' (by decide) ⟨by omega, by omega⟩) (sd_k h).1 ⟨by decide, rfl⟩ (sd_m h hL 0 (by decide)) (⟨by decide, by decide⟩) (Nat.le_of_ble_eq_true rfl) rfl ?_
    rintro M G' ⟨hM, rfl⟩
    rw [t1] at hM
    refine x_cgt (tgt := 179) (pc := 57) dX8_waysToMake_57 (by decide) (by have := hM.2.2; omega) (fun c_57 => ?_) (fun c_57 => ?_)
    rotate_left
    · skip
      exfalso; rcases Nat.eq_zero_or_pos T1 with e | e; (have := hM.1 e; omega); (have h9 := (hM.2.1 e x (by omega)).mp (by omega); have h8 := Nat.le_mul_of_pos_right x e; omega)
    rw [zskX hT hz hw (by omega) hbw hM (by omega)]
    exact cont _ _ _ _ _ _ hQ hF
  | succ k ih =>
    intro x G o8 o9 o10 o11 hx hxT hQ hF
    have hS' := hS.FR hQ (by simp) (by simp) (by simp)
    have hx30 : x ≤ 30 := by omega
    have n1 : x * T1 ≤ 30 * 12 := Nat.mul_le_mul hx30 hT1
    have g1 : G (r + 2) 1 = T1 := by rw [hS'.2.2.2.1 1 (by decide), t1]
    refine x_iload (pc := 48) dX8_waysToMake_48 rfl ?_
    refine x_aloadn (pc := 50) dX8_waysToMake_50 rfl ?_
    refine x_iconst (pc := 51) dX8_waysToMake_51 ?_
    refine x_iload (pc := 52) dX8_waysToMake_52 rfl ?_
    refine x_cVI (pc := 54) dX8_waysToMake_54 lk_X8_55 (c_Sd_most (u := 1) h hL hF hS' (by decide) ⟨by omega, by omega⟩) (sd_k h).1 ⟨by decide, rfl⟩ (sd_m h hL 0 (by decide)) (⟨by decide, by decide⟩) (Nat.le_of_ble_eq_true rfl) rfl ?_
    rintro M G' ⟨hM, rfl⟩
    rw [t1] at hM
    refine x_cgt (tgt := 179) (pc := 57) dX8_waysToMake_57 (by decide) (by have := hM.2.2; omega) (fun c_57 => ?_) (fun c_57 => ?_)
    · skip
      rw [zskX hT hz hw (by omega) hbw hM (by omega)]
      exact cont _ _ _ _ _ _ hQ hF
    · skip
      have hxM : T1 = 0 → x = 0 := fun e => by have := hM.1 e; omega
      refine x_iload (pc := 60) dX8_waysToMake_60 rfl ?_
      refine x_iload (pc := 62) dX8_waysToMake_62 rfl ?_
      refine x_aloadn (pc := 64) dX8_waysToMake_64 rfl ?_
      refine x_getR (r + 2) (pc := 65) dX8_waysToMake_65 fl_X8_15 (sd_k h).1 (sd_m h hL 0 (by decide)) (sd_f1 h hF) ?_
      refine x_iconst (pc := 68) dX8_waysToMake_68 ?_
      refine x_iald (1) (pc := 69) dX8_waysToMake_69 (sd_k h).2.2.1 (sd_m h hL 2 (by decide)) (⟨rfl, by decide, by decide⟩) ?_
      rw [g1]
      refine x_imul (pc := 70) dX8_waysToMake_70 ?_
      refine x_isub (pc := 71) dX8_waysToMake_71 ?_
      refine x_istore (pc := 72) dX8_waysToMake_72 (by decide) rfl ?_
      refine x_aloadn (pc := 74) dX8_waysToMake_74 rfl ?_
      refine x_iconst (pc := 75) dX8_waysToMake_75 ?_
      refine x_cVI (pc := 76) dX8_waysToMake_76 lk_X8_52 (c_Sd_least (u := 2) h hL hF hS' (by decide)) (sd_k h).1 ⟨by decide, rfl⟩ (sd_m h hL 0 (by decide)) (⟨by decide, by decide⟩) (Nat.le_of_ble_eq_true rfl) rfl ?_
      rintro l2 G' ⟨hl2, rfl⟩
      rw [t2] at hl2
      refine x_istore (pc := 79) dX8_waysToMake_79 (by decide) rfl ?_
      obtain ⟨y, rfl⟩ : ∃ y : Nat, l2 = y := ⟨l2.toNat, by split at hl2 <;> omega⟩
      have hy : y = if 0 < T2 then 1 else 0 := by split at hl2 <;> split <;> omega
      have hy1 : y ≤ 1 := by split at hy <;> omega
      rw [zenY hT hz hw hx30 hy]
      refine l_Sd_wy (G0 := G0) (bw := bw) (bx := bw - x * T1) h hL hS ht htL hmN hN hR htr hT hw hx30 hwT ⟨hxM, hxT⟩ (by omega) hbw (fun G1 o9 o10 o11 hQ hF => ?_) (31 - y) y _ _ _ (by omega) (fun e => by rw [if_pos e] at hy; omega) hQ hF
      refine x_iinc (pc := 173) dX8_waysToMake_173 rfl (by decide) rfl ?_
      refine x_goto (tgt := 48) (pc := 176) dX8_waysToMake_176 (by decide) ?_
      have e := ih (x + 1) G1 (some (vI (bw - x * T1))) o9 o10 o11 (by omega) (fun _ => by omega) hQ hF
      rw [show 29791 * w + 961 * (x + 1) = 29791 * w + 961 * x + 961 by omega] at e
      exact e
theorem l_Sd_ww (h : xSd r) (hL : x_SL L) (hS : cSd r n I q G0) (ht : xK t = (13, N)) (htL : t ∈ L) (hmN : m ≤ N) (hN : N ≤ 30) (hR : ∀ j, j < m → G0 t j = R j ∧ R j < 8) (htr : t ≠ r + 4 ∧ t ≠ r + 3) (hT : zTs n I q T0 T1 T2 T3 zl) :
    ∀ (k w : Nat) (G : Nat → Nat → Int) (o6 o7 o8 o9 o10 o11 : Option (Nat × Int)), w + k = 31 → (0 < T0 → 1 ≤ w) → FR [r + 3, r + 4] G0 G → x_Fin xFL G →
    X mX8_waysToMake 2 0 0 (qI L fun x G' => x = zWays n I q m R ∧ FR [r + 3, r + 4] G0 G' ∧ x_Fin xFL G') 17 [some (vR r), some (vR t), some (vI m), some (vI ((m : Int) - zl)), some (vI (zPc (zPP n I q m R) (29791 * w))), some (vI w), o6, o7, o8, o9, o10, o11] [] L G 0 0 := by
  obtain ⟨⟨t0, t1⟩, ⟨t2, t3⟩, t4⟩ := id hT
  obtain ⟨s1, s2, s3, s4, s5⟩ := id hS
  have hz : ∀ j, j < n → zV (I q j) := fun j hj => (s3 j hj).2
  have hT0 : T0 ≤ 12 := by have := zct_le (I := I) (q := q) (u := 0) n; omega
  have hzl := zlc_le (I := I) (q := q) n
  intro k
  induction k with
  | zero =>
    intro w G o6 o7 o8 o9 o10 o11 hw hwT hQ hF
    have hS' := hS.FR hQ (by simp) (by simp) (by simp)
    refine x_iload (pc := 17) dX8_waysToMake_17 rfl ?_
    refine x_aloadn (pc := 19) dX8_waysToMake_19 rfl ?_
    refine x_iconst (pc := 20) dX8_waysToMake_20 ?_
    refine x_iloadn (pc := 21) dX8_waysToMake_21 rfl ?_
    refine x_cVI (pc := 22) dX8_waysToMake_22 lk_X8_55 (c_Sd_most (u := 0) h hL hF hS' (by decide) ⟨by omega, by omega⟩) (sd_k h).1 ⟨by decide, rfl⟩ (sd_m h hL 0 (by decide)) (⟨by decide, by decide⟩) (Nat.le_of_ble_eq_true rfl) rfl ?_
    rintro M G' ⟨hM, rfl⟩
    rw [t0] at hM
    refine x_cgt (tgt := 185) (pc := 25) dX8_waysToMake_25 (by decide) (by have := hM.2.2; omega) (fun c_25 => ?_) (fun c_25 => ?_)
    rotate_left
    · skip
      exfalso; rcases Nat.eq_zero_or_pos T0 with e | e; (have := hM.1 e; omega); (have h9 := (hM.2.1 e w (by omega)).mp (by omega); have h8 := Nat.le_mul_of_pos_right w e; omega)
    rw [zskW hT hz (by omega) rfl hM (by omega)]
    refine x_iload (pc := 185) dX8_waysToMake_185 rfl ?_
    refine x_rI (pc := 187) dX8_waysToMake_187 rfl ?_
    exact ⟨rfl, hQ, hF⟩
  | succ k ih =>
    intro w G o6 o7 o8 o9 o10 o11 hw hwT hQ hF
    have hS' := hS.FR hQ (by simp) (by simp) (by simp)
    have hw30 : w ≤ 30 := by omega
    have n1 : w * T0 ≤ 30 * 12 := Nat.mul_le_mul hw30 hT0
    have g1 : G (r + 2) 0 = T0 := by rw [hS'.2.2.2.1 0 (by decide), t0]
    refine x_iload (pc := 17) dX8_waysToMake_17 rfl ?_
    refine x_aloadn (pc := 19) dX8_waysToMake_19 rfl ?_
    refine x_iconst (pc := 20) dX8_waysToMake_20 ?_
    refine x_iloadn (pc := 21) dX8_waysToMake_21 rfl ?_
    refine x_cVI (pc := 22) dX8_waysToMake_22 lk_X8_55 (c_Sd_most (u := 0) h hL hF hS' (by decide) ⟨by omega, by omega⟩) (sd_k h).1 ⟨by decide, rfl⟩ (sd_m h hL 0 (by decide)) (⟨by decide, by decide⟩) (Nat.le_of_ble_eq_true rfl) rfl ?_
    rintro M G' ⟨hM, rfl⟩
    rw [t0] at hM
    refine x_cgt (tgt := 185) (pc := 25) dX8_waysToMake_25 (by decide) (by have := hM.2.2; omega) (fun c_25 => ?_) (fun c_25 => ?_)
    · skip
      rw [zskW hT hz (by omega) rfl hM (by omega)]
      refine x_iload (pc := 185) dX8_waysToMake_185 rfl ?_
      refine x_rI (pc := 187) dX8_waysToMake_187 rfl ?_
      exact ⟨rfl, hQ, hF⟩
    · skip
      have hwM : T0 = 0 → w = 0 := fun e => by have := hM.1 e; omega
      refine x_iloadn (pc := 28) dX8_waysToMake_28 rfl ?_
      refine x_iload (pc := 29) dX8_waysToMake_29 rfl ?_
      refine x_aloadn (pc := 31) dX8_waysToMake_31 rfl ?_
      refine x_getR (r + 2) (pc := 32) dX8_waysToMake_32 fl_X8_15 (sd_k h).1 (sd_m h hL 0 (by decide)) (sd_f1 h hF) ?_
      refine x_iconst (pc := 35) dX8_waysToMake_35 ?_
      refine x_iald (0) (pc := 36) dX8_waysToMake_36 (sd_k h).2.2.1 (sd_m h hL 2 (by decide)) (⟨rfl, by decide, by decide⟩) ?_
      rw [g1]
      refine x_imul (pc := 37) dX8_waysToMake_37 ?_
      refine x_isub (pc := 38) dX8_waysToMake_38 ?_
      refine x_istore (pc := 39) dX8_waysToMake_39 (by decide) rfl ?_
      refine x_aloadn (pc := 41) dX8_waysToMake_41 rfl ?_
      refine x_iconst (pc := 42) dX8_waysToMake_42 ?_
      refine x_cVI (pc := 43) dX8_waysToMake_43 lk_X8_52 (c_Sd_least (u := 1) h hL hF hS' (by decide)) (sd_k h).1 ⟨by decide, rfl⟩ (sd_m h hL 0 (by decide)) (⟨by decide, by decide⟩) (Nat.le_of_ble_eq_true rfl) rfl ?_
      rintro l2 G' ⟨hl2, rfl⟩
      rw [t1] at hl2
      refine x_istore (pc := 46) dX8_waysToMake_46 (by decide) rfl ?_
      obtain ⟨x, rfl⟩ : ∃ x : Nat, l2 = x := ⟨l2.toNat, by split at hl2 <;> omega⟩
      have hx : x = if 0 < T1 then 1 else 0 := by split at hl2 <;> split <;> omega
      have hx1 : x ≤ 1 := by split at hx <;> omega
      rw [zenX hT hz hw30 hx]
      refine l_Sd_wx (G0 := G0) (bw := (m : Int) - zl - w * T0) h hL hS ht htL hmN hN hR htr hT hw30 ⟨hwM, hwT⟩ rfl (fun G1 o7 o8 o9 o10 o11 hQ hF => ?_) (31 - x) x _ _ _ _ _ (by omega) (fun e => by rw [if_pos e] at hx; omega) hQ hF
      refine x_iinc (pc := 179) dX8_waysToMake_179 rfl (by decide) rfl ?_
      refine x_goto (tgt := 17) (pc := 182) dX8_waysToMake_182 (by decide) ?_
      exact ih (w + 1) G1 (some (vI ((m : Int) - zl - w * T0))) o7 o8 o9 o10 o11 (by omega) (fun _ => by omega) hQ hF
theorem c_Sd_ways {G : Nat → Nat → Int} (h : xSd r) (hL : x_SL L) (hF : x_Fin xFL G) (hS : cSd r n I q G) (ht : xK t = (13, N)) (htL : t ∈ L) (hmN : m ≤ N) (hN : N ≤ 30) (hR : ∀ j, j < m → G t j = R j ∧ R j < 8) (htr : t ≠ r + 4 ∧ t ≠ r + 3) :
    CM yX8_waysToMake mX8_waysToMake 2 0 0 [vR r, vR t, vI m] L G (qI L fun x G' => x = zWays n I q m R ∧ FR [r + 3, r + 4] G G' ∧ x_Fin xFL G') := by
  obtain ⟨s1, s2, s3, s4, s5⟩ := id hS
  have hz : ∀ j, j < n → zV (I q j) := fun j hj => (s3 j hj).2
  have hT : zTs n I q (zct I q 0 n) (zct I q 1 n) (zct I q 2 n) (zct I q 3 n) (zlc I q n) := ⟨⟨rfl, rfl⟩, ⟨rfl, rfl⟩, rfl⟩
  refine Ct.of_X (μ := mX8_waysToMake) rfl rfl (by decide) (fun h => by cases h) (Nat.le_of_ble_eq_true rfl) rfl ?_
  refine x_iloadn (pc := 0) dX8_waysToMake_0 rfl ?_
  refine x_aloadn (pc := 1) dX8_waysToMake_1 rfl ?_
  refine x_getI (pc := 2) dX8_waysToMake_2 fl_X8_28 (sd_k h).1 (sd_m h hL 0 (by decide)) ?_
  rw [s5]
  refine x_isub (pc := 5) dX8_waysToMake_5 ?_
  refine x_istoren (pc := 6) dX8_waysToMake_6 rfl (by decide) rfl ?_
  refine x_iconst (pc := 7) dX8_waysToMake_7 ?_
  refine x_istore (pc := 8) dX8_waysToMake_8 (by decide) rfl ?_
  refine x_aloadn (pc := 10) dX8_waysToMake_10 rfl ?_
  refine x_iconst (pc := 11) dX8_waysToMake_11 ?_
  refine x_cVI (pc := 12) dX8_waysToMake_12 lk_X8_52 (c_Sd_least (u := 0) h hL hF hS (by decide)) (sd_k h).1 ⟨by decide, rfl⟩ (sd_m h hL 0 (by decide)) (⟨by decide, by decide⟩) (Nat.le_of_ble_eq_true rfl) rfl ?_
  rintro l2 G' ⟨hl2, rfl⟩
  refine x_istore (pc := 15) dX8_waysToMake_15 (by decide) rfl ?_
  obtain ⟨w, rfl⟩ : ∃ x : Nat, l2 = x := ⟨l2.toNat, by split at hl2 <;> omega⟩
  have hw : w = if 0 < zct I q 0 n then 1 else 0 := by split at hl2 <;> split <;> omega
  have hw1 : w ≤ 1 := by split at hw <;> omega
  have e := l_Sd_ww (R := R) h hL hS ht htL hmN hN hR htr hT (31 - w) w G' none none none none none none (by omega) (fun e => by rw [if_pos e] at hw; omega) FR.rf hF
  rw [← zenW hT hz hw] at e
  exact e
end XWX

