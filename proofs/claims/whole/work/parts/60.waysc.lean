/-! patterns making rows: all lengths put, in order; the class's count -/
noncomputable def zPc (P : Nat → Prop) : Nat → Nat
  | 0 => 0
  | c + 1 => zPc P c + @ite Nat (P c) (Classical.propDecidable _) 1 0
theorem zPc_skip {P : Nat → Prop} {a : Nat} : ∀ b, a ≤ b → (∀ c, a ≤ c → c < b → ¬ P c) → zPc P b = zPc P a
  | 0, h, _ => by have : a = 0 := by omega
                  subst this; rfl
  | b + 1, h, hn => by
    by_cases e : a = b + 1
    · subst e; rfl
    · rw [zPc, zPc_skip b (by omega) (fun c h1 h2 => hn c h1 (by omega)), if_neg (hn b (by omega) (by omega))]; rfl
theorem zPc_one {P : Nat → Prop} {a c b : Nat} (h1 : a ≤ c) (h2 : c < b) (hn : ∀ d, a ≤ d → d < b → P d → d = c) : zPc P b = zPc P a + @ite Nat (P c) (Classical.propDecidable _) 1 0 := by
  rw [zPc_skip (a := c + 1) b h2 (fun d q1 q2 q3 => by have := hn d (by omega) q2 q3; omega), zPc, zPc_skip (a := a) c h1 (fun d q1 q2 q3 => by have := hn d q1 (by omega) q3; omega)]
theorem zPc_le {P : Nat → Prop} : ∀ c, zPc P c ≤ c
  | 0 => Nat.le_refl _
  | c + 1 => by have := zPc_le (P := P) c; rw [zPc]; split <;> omega
def zdg (c : Nat) : Nat → Nat := fun u => if u = 0 then c / 29791 else if u = 1 then c / 961 % 31 else if u = 2 then c / 31 % 31 else c % 31
theorem zdg_mk {w x y z : Nat} (hw : w ≤ 30) (hx : x ≤ 30) (hy : y ≤ 30) (hz : z ≤ 30) : zdg (29791 * w + 961 * x + 31 * y + z) 0 = w ∧ zdg (29791 * w + 961 * x + 31 * y + z) 1 = x ∧ zdg (29791 * w + 961 * x + 31 * y + z) 2 = y ∧ zdg (29791 * w + 961 * x + 31 * y + z) 3 = z := by
  refine ⟨?_, ?_, ?_, ?_⟩
  · show (29791 * w + 961 * x + 31 * y + z) / 29791 = w; omega
  · show (29791 * w + 961 * x + 31 * y + z) / 961 % 31 = x; omega
  · show (29791 * w + 961 * x + 31 * y + z) / 31 % 31 = y; omega
  · show (29791 * w + 961 * x + 31 * y + z) % 31 = z; omega
theorem zdg_eq {c : Nat} (hc : c < 923521) : c = 29791 * zdg c 0 + 961 * zdg c 1 + 31 * zdg c 2 + zdg c 3 ∧ zdg c 0 ≤ 30 ∧ zdg c 1 ≤ 30 ∧ zdg c 2 ≤ 30 ∧ zdg c 3 ≤ 30 := by
  show c = 29791 * (c / 29791) + 961 * (c / 961 % 31) + 31 * (c / 31 % 31) + c % 31 ∧ c / 29791 ≤ 30 ∧ c / 961 % 31 ≤ 30 ∧ c / 31 % 31 ≤ 30 ∧ c % 31 ≤ 30
  omega
def zP (n : Nat) (I : Nat → Nat → Nat) (q m : Nat) (R p : Nat → Nat) : Prop := zVd n I q m p ∧ zMa I q p R n
def zPP (n : Nat) (I : Nat → Nat → Nat) (q m : Nat) (R : Nat → Nat) (c : Nat) : Prop := zP n I q m R (zdg c)
noncomputable def zWays (n : Nat) (I : Nat → Nat → Nat) (q m : Nat) (R : Nat → Nat) : Nat := zPc (zPP n I q m R) 923521
theorem zof_sum {I : Nat → Nat → Nat} {q : Nat} {p : Nat → Nat} : ∀ n, (∀ j, j < n → zV (I q j)) → yof I q p n = zlc I q n + p 0 * zct I q 0 n + p 1 * zct I q 1 n + p 2 * zct I q 2 n + p 3 * zct I q 3 n
  | 0, _ => by simp [yof, zlc, zct]
  | n + 1, h => by
    have ih := zof_sum n (fun j hj => h j (by omega)) (I := I) (q := q) (p := p)
    obtain ⟨h1, h2⟩ := h n (by omega)
    rw [yof, zlc, zct, zct, zct, zct, ih]
    by_cases c : I q n < 4
    · rw [if_pos c, if_pos c, if_neg (by omega), if_neg (by omega), if_neg (by omega), if_neg (by omega)]; simp only [Nat.add_zero]; omega
    · rw [if_neg c, if_neg c]
      rcases (show I q n = 4 ∨ I q n = 5 ∨ I q n = 6 ∨ I q n = 7 by omega) with e | e | e | e <;> rw [e] <;> simp [Nat.mul_add] <;> omega
def zSm (T0 T1 T2 T3 zl m a b d e : Nat) : Prop := zl + a * T0 + b * T1 + d * T2 + e * T3 = m ∧ ((T0 = 0 → a = 0) ∧ (0 < T0 → 1 ≤ a)) ∧ ((T1 = 0 → b = 0) ∧ (0 < T1 → 1 ≤ b)) ∧ ((T2 = 0 → d = 0) ∧ (0 < T2 → 1 ≤ d)) ∧ ((T3 = 0 → e = 0) ∧ (0 < T3 → 1 ≤ e))
def zTs (n : Nat) (I : Nat → Nat → Nat) (q T0 T1 T2 T3 zl : Nat) : Prop := (zct I q 0 n = T0 ∧ zct I q 1 n = T1) ∧ (zct I q 2 n = T2 ∧ zct I q 3 n = T3) ∧ zlc I q n = zl
theorem zVd_sm {n : Nat} {I : Nat → Nat → Nat} {q m T0 T1 T2 T3 zl : Nat} {p : Nat → Nat} (hT : zTs n I q T0 T1 T2 T3 zl) (hz : ∀ j, j < n → zV (I q j)) : zVd n I q m p ↔ zSm T0 T1 T2 T3 zl m (p 0) (p 1) (p 2) (p 3) := by
  obtain ⟨⟨t0, t1⟩, ⟨t2, t3⟩, t4⟩ := hT
  unfold zVd zSm
  rw [zof_sum n hz, t0, t1, t2, t3, t4]
  constructor
  · rintro ⟨h1, h2⟩
    have u0 := h1 0 (by decide)
    have u1 := h1 1 (by decide)
    have u2 := h1 2 (by decide)
    have u3 := h1 3 (by decide)
    rw [t0] at u0; rw [t1] at u1; rw [t2] at u2; rw [t3] at u3
    exact ⟨h2, u0, u1, u2, u3⟩
  · rintro ⟨h2, u0, u1, u2, u3⟩
    refine ⟨fun u hu => ?_, h2⟩
    rcases (show u = 0 ∨ u = 1 ∨ u = 2 ∨ u = 3 by omega) with rfl | rfl | rfl | rfl
    · rw [t0]; exact u0
    · rw [t1]; exact u1
    · rw [t2]; exact u2
    · rw [t3]; exact u3
theorem zPP_sm {n : Nat} {I : Nat → Nat → Nat} {q m T0 T1 T2 T3 zl c : Nat} {R : Nat → Nat} (hT : zTs n I q T0 T1 T2 T3 zl) (hz : ∀ j, j < n → zV (I q j)) (hc : c < 923521) (h : zPP n I q m R c) : ∃ a b d e, (a ≤ 30 ∧ b ≤ 30 ∧ d ≤ 30 ∧ e ≤ 30) ∧ c = 29791 * a + 961 * b + 31 * d + e ∧ zSm T0 T1 T2 T3 zl m a b d e := by
  have h1 := zdg_eq hc
  exact ⟨zdg c 0, zdg c 1, zdg c 2, zdg c 3, h1.2, h1.1, (zVd_sm hT hz).mp h.1⟩
/-! the class: least and most -/
def zMst (T : Nat) (a x : Int) : Prop := (T = 0 → x = 0) ∧ (0 < T → ∀ p : Nat, 1 ≤ p → ((p : Int) ≤ x ↔ (p : Int) * T ≤ a)) ∧ -2000 ≤ x ∧ x ≤ 2000
theorem c_Sd_least {r n u : Nat} {I : Nat → Nat → Nat} {q : Nat} {L : List Nat} {G : Nat → Nat → Int} (h : xSd r) (hL : x_SL L) (hF : x_Fin xFL G) (hS : cSd r n I q G) (hu : u < 4) :
    CM yX8_least mX8_least 0 0 0 [vR r, vI u] L G (qI L fun x G' => x = (if 0 < zct I q u n then 1 else 0) ∧ G' = G) := by
  have hT := hS.2.2.2.1 u hu
  have hTl := zct_le (I := I) (q := q) (u := u) n
  have hn := hS.2.1
  refine Ct.of_X (μ := mX8_least) rfl rfl (by decide) (fun h => by cases h) (Nat.le_of_ble_eq_true rfl) rfl ?_
  refine x_aloadn (pc := 0) dX8_least_0 rfl ?_
  refine x_getR (r + 2) (pc := 1) dX8_least_1 fl_X8_15 (sd_k h).1 (sd_m h hL 0 (by decide)) (sd_f1 h hF) ?_
  refine x_iloadn (pc := 4) dX8_least_4 rfl ?_
  refine x_iald (u) (pc := 5) dX8_least_5 (sd_k h).2.2.1 (sd_m h hL 2 (by decide)) (⟨by omega, by omega, by decide⟩) ?_
  refine x_ile (tgt := 13) (pc := 6) dX8_least_6 (by decide) (by omega) (fun c_6 => ?_) (fun c_6 => ?_)
  · skip
    refine x_iconst (pc := 13) dX8_least_13 ?_
    refine x_rI (pc := 14) dX8_least_14 rfl ?_
    exact ⟨by split <;> omega, rfl⟩
  · skip
    refine x_iconst (pc := 9) dX8_least_9 ?_
    refine x_goto (tgt := 14) (pc := 10) dX8_least_10 (by decide) ?_
    refine x_rI (pc := 14) dX8_least_14 rfl ?_
    exact ⟨by split <;> omega, rfl⟩
theorem c_Sd_most {r n u : Nat} {I : Nat → Nat → Nat} {q : Nat} {a : Int} {L : List Nat} {G : Nat → Nat → Int} (h : xSd r) (hL : x_SL L) (hF : x_Fin xFL G) (hS : cSd r n I q G) (hu : u < 4) (ha : -2000 ≤ a ∧ a ≤ 2000) :
    CM yX8_most mX8_most 0 0 0 [vR r, vI u, vI a] L G (qI L fun x G' => zMst (zct I q u n) a x ∧ G' = G) := by
  have hT := hS.2.2.2.1 u hu
  have hTl := zct_le (I := I) (q := q) (u := u) n
  have hn := hS.2.1
  refine Ct.of_X (μ := mX8_most) rfl rfl (by decide) (fun h => by cases h) (Nat.le_of_ble_eq_true rfl) rfl ?_
  by_cases c0 : 0 ≤ a
  · have hq : a / (G (r + 2) u) ≤ a := Int.ediv_le_self _ c0
    refine x_aloadn (pc := 0) dX8_most_0 rfl ?_
    refine x_getR (r + 2) (pc := 1) dX8_most_1 fl_X8_15 (sd_k h).1 (sd_m h hL 0 (by decide)) (sd_f1 h hF) ?_
    refine x_iloadn (pc := 4) dX8_most_4 rfl ?_
    refine x_iald (u) (pc := 5) dX8_most_5 (sd_k h).2.2.1 (sd_m h hL 2 (by decide)) (⟨by omega, by omega, by decide⟩) ?_
    refine x_ile (tgt := 20) (pc := 6) dX8_most_6 (by decide) (by omega) (fun c_6 => ?_) (fun c_6 => ?_)
    · skip
      refine x_iconst (pc := 20) dX8_most_20 ?_
      refine x_rI (pc := 21) dX8_most_21 rfl ?_
      refine ⟨⟨fun w => ?_, fun w p hp => ?_, ?_, ?_⟩, rfl⟩
      · first | omega | rfl
      · first | (exfalso; omega) | (rw [hT]; exact Int.le_ediv_iff_mul_le (by omega))
      · first | omega | (have := Int.ediv_nonneg c0 (show 0 ≤ G (r + 2) u by omega); omega)
      · omega
    · skip
      refine x_iloadn (pc := 9) dX8_most_9 rfl ?_
      refine x_aloadn (pc := 10) dX8_most_10 rfl ?_
      refine x_getR (r + 2) (pc := 11) dX8_most_11 fl_X8_15 (sd_k h).1 (sd_m h hL 0 (by decide)) (sd_f1 h hF) ?_
      refine x_iloadn (pc := 14) dX8_most_14 rfl ?_
      refine x_iald (u) (pc := 15) dX8_most_15 (sd_k h).2.2.1 (sd_m h hL 2 (by decide)) (⟨by omega, by omega, by decide⟩) ?_
      refine x_idiv (pc := 16) dX8_most_16 (by omega) ?_
      refine x_goto (tgt := 21) (pc := 17) dX8_most_17 (by decide) ?_
      refine x_rI (pc := 21) dX8_most_21 rfl ?_
      refine ⟨⟨fun w => ?_, fun w p hp => ?_, ?_, ?_⟩, rfl⟩
      · first | omega | rfl
      · first | (exfalso; omega) | (rw [hT]; exact Int.le_ediv_iff_mul_le (by omega))
      · first | omega | (have := Int.ediv_nonneg c0 (show 0 ≤ G (r + 2) u by omega); omega)
      · omega
  · skip
    refine x_aloadn (pc := 0) dX8_most_0 rfl ?_
    refine x_getR (r + 2) (pc := 1) dX8_most_1 fl_X8_15 (sd_k h).1 (sd_m h hL 0 (by decide)) (sd_f1 h hF) ?_
    refine x_iloadn (pc := 4) dX8_most_4 rfl ?_
    refine x_iald (u) (pc := 5) dX8_most_5 (sd_k h).2.2.1 (sd_m h hL 2 (by decide)) (⟨by omega, by omega, by decide⟩) ?_
    refine x_ile (tgt := 20) (pc := 6) dX8_most_6 (by decide) (by omega) (fun c_6 => ?_) (fun c_6 => ?_)
    · skip
      refine x_iconst (pc := 20) dX8_most_20 ?_
      refine x_rI (pc := 21) dX8_most_21 rfl ?_
      refine ⟨⟨fun w => ?_, fun w p hp => ?_, ?_, ?_⟩, rfl⟩
      · first | omega | rfl
      · first | (exfalso; omega) | (have := Int.mul_nonneg (show (0 : Int) ≤ p by omega) (show (0 : Int) ≤ (zct I q u n : Nat) by omega); constructor <;> intro <;> omega)
      · omega
      · omega
    · skip
      refine x_iloadn (pc := 9) dX8_most_9 rfl ?_
      refine x_aloadn (pc := 10) dX8_most_10 rfl ?_
      refine x_getR (r + 2) (pc := 11) dX8_most_11 fl_X8_15 (sd_k h).1 (sd_m h hL 0 (by decide)) (sd_f1 h hF) ?_
      refine x_iloadn (pc := 14) dX8_most_14 rfl ?_
      refine x_iald (u) (pc := 15) dX8_most_15 (sd_k h).2.2.1 (sd_m h hL 2 (by decide)) (⟨by omega, by omega, by decide⟩) ?_
      refine x_idivM (pc := 16) dX8_most_16 (by omega) (fun z_16 z1_16 z2_16 => ?_)
      refine x_goto (tgt := 21) (pc := 17) dX8_most_17 (by decide) ?_
      refine x_rI (pc := 21) dX8_most_21 rfl ?_
      refine ⟨⟨fun w => ?_, fun w p hp => ?_, ?_, ?_⟩, rfl⟩
      · first | omega | rfl
      · first | (exfalso; omega) | (have := Int.mul_nonneg (show (0 : Int) ≤ p by omega) (show (0 : Int) ≤ (zct I q u n : Nat) by omega); constructor <;> intro <;> omega)
      · omega
      · omega
theorem c_Sd_setL {r w x y z : Nat} {L : List Nat} {G : Nat → Nat → Int} (h : xSd r) (hL : x_SL L) (hF : x_Fin xFL G) :
    CM yX8_setLengths mX8_setLengths 0 0 0 [vR r, vI w, vI x, vI y, vI z] L G (qV L fun G' => (G' (r + 3) 0 = w ∧ G' (r + 3) 1 = x ∧ G' (r + 3) 2 = y ∧ G' (r + 3) 3 = z) ∧ FR [r + 3] G G' ∧ x_Fin xFL G') := by
  refine Ct.of_X (μ := mX8_setLengths) rfl rfl (by decide) (fun h => by cases h) (Nat.le_of_ble_eq_true rfl) rfl ?_
  refine x_aloadn (pc := 0) dX8_setLengths_0 rfl ?_
  refine x_getR (r + 3) (pc := 1) dX8_setLengths_1 fl_X8_18 (sd_k h).1 (sd_m h hL 0 (by decide)) (sd_f2 h hF) ?_
  refine x_iconst (pc := 4) dX8_setLengths_4 ?_
  refine x_iloadn (pc := 5) dX8_setLengths_5 rfl ?_
  refine x_iastF 0 (pc := 6) dX8_setLengths_6 (sd_k h).2.2.2.1 (sd_m h hL 3 (by decide)) (by decide) hF (fun hF => ?_)
  refine x_aloadn (pc := 7) dX8_setLengths_7 rfl ?_
  refine x_getR (r + 3) (pc := 8) dX8_setLengths_8 fl_X8_18 (sd_k h).1 (sd_m h hL 0 (by decide)) (sd_f2 h hF) ?_
  refine x_iconst (pc := 11) dX8_setLengths_11 ?_
  refine x_iloadn (pc := 12) dX8_setLengths_12 rfl ?_
  refine x_iastF 1 (pc := 13) dX8_setLengths_13 (sd_k h).2.2.2.1 (sd_m h hL 3 (by decide)) (by decide) hF (fun hF => ?_)
  refine x_aloadn (pc := 14) dX8_setLengths_14 rfl ?_
  refine x_getR (r + 3) (pc := 15) dX8_setLengths_15 fl_X8_18 (sd_k h).1 (sd_m h hL 0 (by decide)) (sd_f2 h hF) ?_
  refine x_iconst (pc := 18) dX8_setLengths_18 ?_
  refine x_iloadn (pc := 19) dX8_setLengths_19 rfl ?_
  refine x_iastF 2 (pc := 20) dX8_setLengths_20 (sd_k h).2.2.2.1 (sd_m h hL 3 (by decide)) (by decide) hF (fun hF => ?_)
  refine x_aloadn (pc := 21) dX8_setLengths_21 rfl ?_
  refine x_getR (r + 3) (pc := 22) dX8_setLengths_22 fl_X8_18 (sd_k h).1 (sd_m h hL 0 (by decide)) (sd_f2 h hF) ?_
  refine x_iconst (pc := 25) dX8_setLengths_25 ?_
  refine x_iload (pc := 26) dX8_setLengths_26 rfl ?_
  refine x_iastF 3 (pc := 28) dX8_setLengths_28 (sd_k h).2.2.2.1 (sd_m h hL 3 (by decide)) (by decide) hF (fun hF => ?_)
  refine x_rV (pc := 29) dX8_setLengths_29 rfl ?_
  exact ⟨by simp [x_up], (((FR.rf.up (by simp)).up (by simp)).up (by simp)).up (by simp), hF⟩
/-! the class's loops -/
section XWY
variable {r n m t N T0 T1 T2 T3 zl w x : Nat} {I : Nat → Nat → Nat} {q : Nat} {R : Nat → Nat} {L : List Nat} {G0 : Nat → Nat → Int} {Q : x_Q}
theorem zskY {y : Nat} {bx M : Int} (hT : zTs n I q T0 T1 T2 T3 zl) (hz : ∀ j, j < n → zV (I q j)) (hw : w ≤ 30) (hx : x ≤ 30) (hy : y ≤ 31) (hb : bx = m - zl - w * T0 - x * T1) (hM : zMst T2 bx M) (hc : M < y) : zPc (zPP n I q m R) (29791 * w + 961 * x + 31 * y) = zPc (zPP n I q m R) (29791 * w + 961 * x + 961) := by
  refine (zPc_skip _ (by omega) (fun c h1 h2 hP => ?_)).symm
  obtain ⟨a, b, d, e, hbd, hce, hs⟩ := zPP_sm hT hz (by omega) hP
  have ea : a = w := by omega
  have eb : b = x := by omega
  subst ea; subst eb
  obtain ⟨s1, s2, s3, s4, s5⟩ := hs
  obtain ⟨m1, m2, m3⟩ := hM
  have hn0 : 0 ≤ e * T3 := Nat.zero_le _
  by_cases t2 : T2 = 0
  · have := m1 t2; have := s4.1 t2; omega
  · have hd := s4.2 (by omega)
    have hm : ¬ ((d : Int) * T2 ≤ bx) := fun w => absurd ((m2 (by omega) d hd).mpr w) (by omega)
    omega
theorem zskZ {y : Nat} {bx by_ M : Int} (hT : zTs n I q T0 T1 T2 T3 zl) (hz : ∀ j, j < n → zV (I q j)) (hw : w ≤ 30) (hx : x ≤ 30) (hy : y ≤ 30) (hb : bx = m - zl - w * T0 - x * T1) (hby : by_ = bx - y * T2) (hM : zMst T3 by_ M) (hc : ¬ ((if 0 < T3 then 1 else 0) ≤ M ∧ M * T3 = by_)) : zPc (zPP n I q m R) (29791 * w + 961 * x + 31 * (y + 1)) = zPc (zPP n I q m R) (29791 * w + 961 * x + 31 * y) := by
  refine zPc_skip _ (by omega) (fun c h1 h2 hP => ?_)
  obtain ⟨a, b, d, e, hbd, hce, hs⟩ := zPP_sm hT hz (by omega) hP
  have ea : a = w := by omega
  have eb : b = x := by omega
  have ed : d = y := by omega
  subst ea; subst eb; subst ed
  obtain ⟨s1, s2, s3, s4, s5⟩ := hs
  obtain ⟨m1, m2, m3⟩ := hM
  by_cases t3 : T3 = 0
  · have e0 := m1 t3
    have e1 := s5.1 t3
    subst e1
    apply hc
    rw [t3, e0]
    rw [t3] at s1
    exact ⟨by decide, by omega⟩
  · have he := s5.2 (by omega)
    have hm := (m2 (by omega) e he).mpr (by omega)
    obtain ⟨z, rfl⟩ : ∃ z : Nat, M = z := ⟨M.toNat, by omega⟩
    have hm2 := (m2 (by omega) z (by omega)).mp (Int.le_refl _)
    have hze : z = e := by
      have h3 : z * T3 ≤ e * T3 := by omega
      have := Nat.le_of_mul_le_mul_right h3 (by omega)
      omega
    subst hze
    apply hc
    rw [if_pos (by omega)]
    omega
theorem zoneZ {y z : Nat} (hT : zTs n I q T0 T1 T2 T3 zl) (hz : ∀ j, j < n → zV (I q j)) (hw : w ≤ 30) (hx : x ≤ 30) (hy : y ≤ 30) (hz3 : z ≤ 30) (hs : zSm T0 T1 T2 T3 zl m w x y z) : zPc (zPP n I q m R) (29791 * w + 961 * x + 31 * (y + 1)) = zPc (zPP n I q m R) (29791 * w + 961 * x + 31 * y) + @ite Nat (zMa I q (zdg (29791 * w + 961 * x + 31 * y + z)) R n) (Classical.propDecidable _) 1 0 := by
  have e := zPc_one (P := zPP n I q m R) (a := 29791 * w + 961 * x + 31 * y) (c := 29791 * w + 961 * x + 31 * y + z) (b := 29791 * w + 961 * x + 31 * (y + 1)) (by omega) (by omega) (fun c h1 h2 hP => by
    obtain ⟨a, b, d, e, hbd, hce, hs2⟩ := zPP_sm hT hz (by omega) hP
    have ea : a = w := by omega
    have eb : b = x := by omega
    have ed : d = y := by omega
    subst ea; subst eb; subst ed
    have h3 : e * T3 = z * T3 := by have := hs.1; have := hs2.1; omega
    by_cases t3 : T3 = 0
    · have := hs.2.2.2.2.1 t3; have := hs2.2.2.2.2.1 t3; omega
    · have := Nat.eq_of_mul_eq_mul_right (by omega) h3; omega)
  rw [e]
  obtain ⟨g0, g1, g2, g3⟩ := zdg_mk hw hx hy hz3
  have hV : zVd n I q m (zdg (29791 * w + 961 * x + 31 * y + z)) := (zVd_sm hT hz).mpr (by rw [g0, g1, g2, g3]; exact hs)
  have hi : zPP n I q m R (29791 * w + 961 * x + 31 * y + z) ↔ zMa I q (zdg (29791 * w + 961 * x + 31 * y + z)) R n := ⟨fun w => w.2, fun w => ⟨hV, w⟩⟩
  rw [propext hi]
theorem l_Sd_wz {w x y z : Nat} {room bw bx by_ ways : Int} {p : Nat → Nat} (h : xSd r) (hL : x_SL L) (hS : cSd r n I q G0) (hF : x_Fin xFL G0) (ht : xK t = (13, N)) (htL : t ∈ L) (hmN : m ≤ N) (hN : N ≤ 30) (hR : ∀ j, j < m → G0 t j = R j ∧ R j < 8) (htr : t ≠ r + 4 ∧ t ≠ r + 3) (hV : zVd n I q m p) (hp : p 0 = w ∧ p 1 = x ∧ p 2 = y ∧ p 3 = z)
    (cont : ∀ (G : Nat → Nat → Int), FR [r + 3, r + 4] G0 G → x_Fin xFL G → X mX8_waysToMake 2 0 0 Q 81 [some (vR r), some (vR t), some (vI m), some (vI room), some (vI (ways + @ite Int (zMa I q p R n) (Classical.propDecidable _) 1 0)), some (vI w), some (vI bw), some (vI x), some (vI bx), some (vI ((y : Int) + 1)), some (vI by_), some (vI z)] [] L G 0 0) :
    X mX8_waysToMake 2 0 0 Q 143 [some (vR r), some (vR t), some (vI m), some (vI room), some (vI ways), some (vI w), some (vI bw), some (vI x), some (vI bx), some (vI y), some (vI by_), some (vI z)] [] L G0 0 0 := by
  obtain ⟨p0, p1, p2, p3⟩ := hp
  refine x_aloadn (pc := 143) dX8_waysToMake_143 rfl ?_
  refine x_iload (pc := 144) dX8_waysToMake_144 rfl ?_
  refine x_iload (pc := 146) dX8_waysToMake_146 rfl ?_
  refine x_iload (pc := 148) dX8_waysToMake_148 rfl ?_
  refine x_iload (pc := 150) dX8_waysToMake_150 rfl ?_
  refine x_cVV (pc := 152) dX8_waysToMake_152 lk_X8_59 (c_Sd_setL h hL hF) (sd_k h).1 ⟨by decide, rfl⟩ (sd_m h hL 0 (by decide)) (⟨by decide, by decide⟩) (Nat.le_of_ble_eq_true rfl) rfl ?_
  rintro G1 ⟨⟨a0, a1, a2, a3⟩, b1, hF⟩
  refine x_aloadn (pc := 155) dX8_waysToMake_155 rfl ?_
  refine x_aloadn (pc := 156) dX8_waysToMake_156 rfl ?_
  refine x_iloadn (pc := 157) dX8_waysToMake_157 rfl ?_
  refine x_cVI (pc := 158) dX8_waysToMake_158 lk_X8_63 (c_Sd_reads (p := p) (R := R) h hL hF (hS.FR b1 (by simp) (by simp) (by simp)) (fun u hu => by rcases (show u = 0 ∨ u = 1 ∨ u = 2 ∨ u = 3 by omega) with rfl | rfl | rfl | rfl; rw [a0, p0]; rw [a1, p1]; rw [a2, p2]; rw [a3, p3]) hV ht htL hmN hN (fun j hj => by rw [b1 t (by simp; omega)]; exact hR j hj) htr.1) (sd_k h).1 ⟨by decide, rfl⟩ (sd_m h hL 0 (by decide)) (⟨by decide, by decide⟩) (Nat.le_of_ble_eq_true rfl) rfl ?_
  rintro x G2 ⟨hx, d1, hF⟩
  refine x_ieq (tgt := 167) (pc := 161) dX8_waysToMake_161 (by decide) (by rcases hx with hx | hx <;> omega) (fun c_161 => ?_) (fun c_161 => ?_)
  · skip
    refine x_iinc (pc := 167) dX8_waysToMake_167 rfl (by decide) rfl ?_
    refine x_goto (tgt := 81) (pc := 170) dX8_waysToMake_170 (by decide) ?_
    have hQ : FR [r + 3, r + 4] G0 G2 := (b1.mono (by simp)).tr (d1.mono (by simp))
    rcases hx with hx | hx
    · first
      | (exfalso; omega)
      | (have e := cont G2 hQ hF; rw [if_pos hx.2] at e; exact e)
    · first
      | (exfalso; omega)
      | (have e := cont G2 hQ hF; rw [if_neg hx.2, Int.add_zero] at e; exact e)
  · skip
    refine x_iinc (pc := 164) dX8_waysToMake_164 rfl (by decide) rfl ?_
    refine x_iinc (pc := 167) dX8_waysToMake_167 rfl (by decide) rfl ?_
    refine x_goto (tgt := 81) (pc := 170) dX8_waysToMake_170 (by decide) ?_
    have hQ : FR [r + 3, r + 4] G0 G2 := (b1.mono (by simp)).tr (d1.mono (by simp))
    rcases hx with hx | hx
    · first
      | (exfalso; omega)
      | (have e := cont G2 hQ hF; rw [if_pos hx.2] at e; exact e)
    · first
      | (exfalso; omega)
      | (have e := cont G2 hQ hF; rw [if_neg hx.2, Int.add_zero] at e; exact e)
theorem l_Sd_wy (h : xSd r) (hL : x_SL L) (hS : cSd r n I q G0) (ht : xK t = (13, N)) (htL : t ∈ L) (hmN : m ≤ N) (hN : N ≤ 30) (hR : ∀ j, j < m → G0 t j = R j ∧ R j < 8) (htr : t ≠ r + 4 ∧ t ≠ r + 3) (hT : zTs n I q T0 T1 T2 T3 zl) (hw : w ≤ 30) (hx : x ≤ 30) (hwT : (T0 = 0 → w = 0) ∧ (0 < T0 → 1 ≤ w)) (hxT : (T1 = 0 → x = 0) ∧ (0 < T1 → 1 ≤ x)) {bw bx : Int} (hbx : bx = m - zl - w * T0 - x * T1) (hbw : bw = m - zl - w * T0)
    (cont : ∀ (G : Nat → Nat → Int) (o9 o10 o11 : Option (Nat × Int)), FR [r + 3, r + 4] G0 G → x_Fin xFL G → X mX8_waysToMake 2 0 0 Q 173 [some (vR r), some (vR t), some (vI m), some (vI ((m : Int) - zl)), some (vI (zPc (zPP n I q m R) (29791 * w + 961 * x + 961))), some (vI w), some (vI bw), some (vI x), some (vI bx), o9, o10, o11] [] L G 0 0) :
    ∀ (k y : Nat) (G : Nat → Nat → Int) (o10 o11 : Option (Nat × Int)), y + k = 31 → (0 < T2 → 1 ≤ y) → FR [r + 3, r + 4] G0 G → x_Fin xFL G →
    X mX8_waysToMake 2 0 0 Q 81 [some (vR r), some (vR t), some (vI m), some (vI ((m : Int) - zl)), some (vI (zPc (zPP n I q m R) (29791 * w + 961 * x + 31 * y))), some (vI w), some (vI bw), some (vI x), some (vI bx), some (vI y), o10, o11] [] L G 0 0 := by
  obtain ⟨⟨t0, t1⟩, ⟨t2, t3⟩, t4⟩ := id hT
  obtain ⟨s1, s2, s3, s4, s5⟩ := id hS
  have hz : ∀ j, j < n → zV (I q j) := fun j hj => (s3 j hj).2
  have n0 : w * T0 ≤ 30 * 12 := Nat.mul_le_mul hw (by have := zct_le (I := I) (q := q) (u := 0) n; omega)
  have n1 : x * T1 ≤ 30 * 12 := Nat.mul_le_mul hx (by have := zct_le (I := I) (q := q) (u := 1) n; omega)
  have hT2 : T2 ≤ 12 := by have := zct_le (I := I) (q := q) (u := 2) n; omega
  have hT3 : T3 ≤ 12 := by have := zct_le (I := I) (q := q) (u := 3) n; omega
  have hpc := zPc_le (P := zPP n I q m R)
  have hzl := zlc_le (I := I) (q := q) n
  intro k
  induction k with
  | zero =>
    intro y G o10 o11 hy hyT hQ hF
    have hS' := hS.FR hQ (by simp) (by simp) (by simp)
    refine x_iload (pc := 81) dX8_waysToMake_81 rfl ?_
    refine x_aloadn (pc := 83) dX8_waysToMake_83 rfl ?_
    refine x_iconst (pc := 84) dX8_waysToMake_84 ?_
    refine x_iload (pc := 85) dX8_waysToMake_85 rfl ?_
    refine x_cVI (pc := 87) dX8_waysToMake_87 lk_X8_55 (c_Sd_most (u := 2) h hL hF hS' (by decide) ⟨by omega, by omega⟩) (sd_k h).1 ⟨by decide, rfl⟩ (sd_m h hL 0 (by decide)) (⟨by decide, by decide⟩) (Nat.le_of_ble_eq_true rfl) rfl ?_
    rintro M G' ⟨hM, rfl⟩
    rw [t2] at hM
    refine x_cgt (tgt := 173) (pc := 90) dX8_waysToMake_90 (by decide) (by have := hM.2.2; omega) (fun c_90 => ?_) (fun c_90 => ?_)
    rotate_left
    · skip
      exfalso; rcases Nat.eq_zero_or_pos T2 with e | e; (have := hM.1 e; omega); (have h9 := (hM.2.1 e y (by omega)).mp (by omega); have h8 := Nat.le_mul_of_pos_right y e; omega)
    rw [zskY hT hz hw hx (by omega) hbx hM (by omega)]
    exact cont _ _ _ _ hQ hF
  | succ k ih =>
    intro y G o10 o11 hy hyT hQ hF
    have hS' := hS.FR hQ (by simp) (by simp) (by simp)
    have hy30 : y ≤ 30 := by omega
    have n2 : y * T2 ≤ 30 * 12 := Nat.mul_le_mul hy30 hT2
    have g2 : G (r + 2) 2 = T2 := by rw [hS'.2.2.2.1 2 (by decide), t2]
    have g3 : G (r + 2) 3 = T3 := by rw [hS'.2.2.2.1 3 (by decide), t3]
    have hp1 := hpc (29791 * w + 961 * x + 31 * y)
    refine x_iload (pc := 81) dX8_waysToMake_81 rfl ?_
    refine x_aloadn (pc := 83) dX8_waysToMake_83 rfl ?_
    refine x_iconst (pc := 84) dX8_waysToMake_84 ?_
    refine x_iload (pc := 85) dX8_waysToMake_85 rfl ?_
    refine x_cVI (pc := 87) dX8_waysToMake_87 lk_X8_55 (c_Sd_most (u := 2) h hL hF hS' (by decide) ⟨by omega, by omega⟩) (sd_k h).1 ⟨by decide, rfl⟩ (sd_m h hL 0 (by decide)) (⟨by decide, by decide⟩) (Nat.le_of_ble_eq_true rfl) rfl ?_
    rintro M G' ⟨hM, rfl⟩
    rw [t2] at hM
    refine x_cgt (tgt := 173) (pc := 90) dX8_waysToMake_90 (by decide) (by have := hM.2.2; omega) (fun c_90 => ?_) (fun c_90 => ?_)
    · skip
      rw [zskY hT hz hw hx (by omega) hbx hM (by omega)]
      exact cont _ _ _ _ hQ hF
    · skip
      have hyM : T2 = 0 → y = 0 := fun e => by have := hM.1 e; omega
      refine x_iload (pc := 93) dX8_waysToMake_93 rfl ?_
      refine x_iload (pc := 95) dX8_waysToMake_95 rfl ?_
      refine x_aloadn (pc := 97) dX8_waysToMake_97 rfl ?_
      refine x_getR (r + 2) (pc := 98) dX8_waysToMake_98 fl_X8_15 (sd_k h).1 (sd_m h hL 0 (by decide)) (sd_f1 h hF) ?_
      refine x_iconst (pc := 101) dX8_waysToMake_101 ?_
      refine x_iald (2) (pc := 102) dX8_waysToMake_102 (sd_k h).2.2.1 (sd_m h hL 2 (by decide)) (⟨rfl, by decide, by decide⟩) ?_
      rw [g2]
      refine x_imul (pc := 103) dX8_waysToMake_103 ?_
      refine x_isub (pc := 104) dX8_waysToMake_104 ?_
      refine x_istore (pc := 105) dX8_waysToMake_105 (by decide) rfl ?_
      refine x_aloadn (pc := 107) dX8_waysToMake_107 rfl ?_
      refine x_iconst (pc := 108) dX8_waysToMake_108 ?_
      refine x_iload (pc := 109) dX8_waysToMake_109 rfl ?_
      refine x_cVI (pc := 111) dX8_waysToMake_111 lk_X8_55 (c_Sd_most (u := 3) h hL hF hS' (by decide) ⟨by omega, by omega⟩) (sd_k h).1 ⟨by decide, rfl⟩ (sd_m h hL 0 (by decide)) (⟨by decide, by decide⟩) (Nat.le_of_ble_eq_true rfl) rfl ?_
      rintro Z G' ⟨hZ, rfl⟩
      rw [t3] at hZ
      refine x_istore (pc := 114) dX8_waysToMake_114 (by decide) rfl ?_
      refine x_iload (pc := 116) dX8_waysToMake_116 rfl ?_
      refine x_aloadn (pc := 118) dX8_waysToMake_118 rfl ?_
      refine x_iconst (pc := 119) dX8_waysToMake_119 ?_
      refine x_cVI (pc := 120) dX8_waysToMake_120 lk_X8_52 (c_Sd_least (u := 3) h hL hF hS' (by decide)) (sd_k h).1 ⟨by decide, rfl⟩ (sd_m h hL 0 (by decide)) (⟨by decide, by decide⟩) (Nat.le_of_ble_eq_true rfl) rfl ?_
      rintro x3 G' ⟨hx3, rfl⟩
      rw [t3] at hx3
      refine x_clt (tgt := 167) (pc := 123) dX8_waysToMake_123 (by decide) (by have := hZ.2.2; split at hx3 <;> omega) (fun c_123 => ?_) (fun c_123 => ?_)
      · skip
        rw [← zskZ (y := y) hT hz hw hx hy30 hbx rfl hZ (by omega)]
        refine x_iinc (pc := 167) dX8_waysToMake_167 rfl (by decide) rfl ?_
        refine x_goto (tgt := 81) (pc := 170) dX8_waysToMake_170 (by decide) ?_
        exact ih (y + 1) _ _ _ (by omega) (fun _ => by omega) hQ hF
      · skip
        refine x_iload (pc := 126) dX8_waysToMake_126 rfl ?_
        refine x_aloadn (pc := 128) dX8_waysToMake_128 rfl ?_
        refine x_getR (r + 2) (pc := 129) dX8_waysToMake_129 fl_X8_15 (sd_k h).1 (sd_m h hL 0 (by decide)) (sd_f1 h hF) ?_
        refine x_iconst (pc := 132) dX8_waysToMake_132 ?_
        refine x_iald (3) (pc := 133) dX8_waysToMake_133 (sd_k h).2.2.1 (sd_m h hL 2 (by decide)) (⟨rfl, by decide, by decide⟩) ?_
        rw [g3]
        refine x_imul (pc := 134) dX8_waysToMake_134 ?_
        refine x_iload (pc := 135) dX8_waysToMake_135 rfl ?_
        refine x_ceq (tgt := 143) (pc := 137) dX8_waysToMake_137 (by decide) (by have := hZ.2.2; have n3 : Z * (T3 : Int) ≤ 2000 * 12 := Int.mul_le_mul (by omega) (by omega) (by omega) (by omega); have n4 : -2000 * 12 ≤ Z * (T3 : Int) := (by have := Int.mul_le_mul_of_nonneg_right (show -2000 ≤ Z by omega) (show (0 : Int) ≤ T3 by omega); omega); omega) (fun c_137 => ?_) (fun c_137 => ?_)
        · skip
          obtain ⟨z, rfl⟩ : ∃ z : Nat, Z = z := ⟨Z.toNat, by split at hx3 <;> omega⟩
          have hz3 : z ≤ 30 := by
            rcases Nat.eq_zero_or_pos T3 with e | e
            · have := hZ.1 e; omega
            · have h8 := Nat.le_mul_of_pos_right z e; omega
          have hs : zSm T0 T1 T2 T3 zl m w x y z := ⟨by omega, hwT, hxT, ⟨hyM, hyT⟩, fun e => by have := hZ.1 e; omega, fun e => by rw [if_pos e] at hx3; omega⟩
          obtain ⟨d0, d1, d2, d3⟩ := zdg_mk hw hx hy30 hz3
          have hV : zVd n I q m (zdg (29791 * w + 961 * x + 31 * y + z)) := (zVd_sm hT hz).mpr (by rw [d0, d1, d2, d3]; exact hs)
          have ih2 := fun G o10 o11 => ih (y + 1) G o10 o11 (by omega) (fun _ => by omega)
          rw [zoneZ hT hz hw hx hy30 hz3 hs] at ih2
          exact l_Sd_wz h hL hS' hF ht htL hmN hN (fun j hj => by rw [hQ t (by simp; omega)]; exact hR j hj) htr hV ⟨d0, d1, d2, d3⟩ (fun G1 a1 hF => by
            have e := ih2 G1 (some (vI (bx - y * T2))) (some (vI z)) (hQ.tr a1) hF
            by_cases cz : zMa I q (zdg (29791 * w + 961 * x + 31 * y + z)) R n
            · rw [if_pos cz]; rw [if_pos cz] at e; exact e
            · rw [if_neg cz]; rw [if_neg cz] at e; exact e)
        · skip
          refine x_goto (tgt := 167) (pc := 140) dX8_waysToMake_140 (by decide) ?_
          rw [← zskZ (y := y) hT hz hw hx hy30 hbx rfl hZ (by omega)]
          refine x_iinc (pc := 167) dX8_waysToMake_167 rfl (by decide) rfl ?_
          refine x_goto (tgt := 81) (pc := 170) dX8_waysToMake_170 (by decide) ?_
          exact ih (y + 1) _ _ _ (by omega) (fun _ => by omega) hQ hF
end XWY

