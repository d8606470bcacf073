/-! the class: which of the words are those told -/
section XRK
variable {m : Nat} {S : Nat → Nat} {I : Nat → Nat → Nat} {z lo hi mk : Nat → Nat} {tw : Nat → Int} {L : List Nat}
/-- the letter told at a place -/
def zTp (z : Nat → Nat) (tw : Nat → Int) (p : Nat) : Nat := (zlet (tw (zun z p)) (p - zbg z (zun z p))).toNat
noncomputable def zrk (m : Nat) (S : Nat → Nat) (I : Nat → Nat → Nat) (z mk T : Nat → Nat) : Nat → Nat
  | 0 => 0
  | p + 1 => if zF m S I z (3 + p) = 3 + p then zrk m S I z mk T p * zpop (zA m S I z mk (3 + p)) + zps (zA m S I z mk (3 + p)) (T p) else zrk m S I z mk T p
theorem zTp_le (p : Nat) : zTp z tw p ≤ 3 := by
  have := zlet_bd (tw (zun z p)) (p - zbg z (zun z p))
  unfold zTp; omega
/-- the place p is as told -/
def zok (m : Nat) (S : Nat → Nat) (I : Nat → Nat → Nat) (z mk T : Nat → Nat) (p : Nat) : Prop := (zF m S I z (3 + p) < 3 → zF m S I z (3 + p) = T p) ∧ (3 ≤ zF m S I z (3 + p) → T (zF m S I z (3 + p) - 3) = T p) ∧ (zF m S I z (3 + p) = 3 + p → zbt (zA m S I z mk (3 + p)) (T p) = 1)
def zoks (m : Nat) (S : Nat → Nat) (I : Nat → Nat → Nat) (z mk T : Nat → Nat) (n : Nat) : Prop := ∀ p, p < n → zok m S I z mk T p
theorem zps_le {a l : Nat} (h : a < 8) (hl : l < 3) : zps a l ≤ 2 := by
  have e : ∀ a, a < 8 → ∀ l, l < 3 → zps a l ≤ 2 := by decide
  exact e a h l hl
theorem zrk_le {T : Nat → Nat} : ∀ n, (∀ p, p < n → T p < 3) → zrk m S I z mk T n + 1 ≤ 3 ^ n
  | 0, _ => Nat.le_refl _
  | n + 1, hT => by
    have ih := zrk_le n (fun p hp => hT p (by omega))
    have hA := zA_lt (m := m) (S := S) (I := I) (z := z) (mk := mk) (3 + n)
    have h1 := zpop_3 _ hA
    have h2 := zps_le hA (hT n (by omega))
    rw [zrk, Nat.pow_succ]
    split
    · have h3 : zrk m S I z mk T n * zpop (zA m S I z mk (3 + n)) ≤ zrk m S I z mk T n * 3 := Nat.mul_le_mul_left _ h1
      omega
    · omega
theorem zTp_3 (hg : ∀ u, u < 4 → zgood (tw u) (z u)) {p : Nat} (hp : p < zbg z 4) : zTp z tw p < 3 := by
  obtain ⟨h1, h2, h3⟩ := zun_in hp
  have h4 := hg _ h1 (p - zbg z (zun z p)) (by omega)
  have h5 := zlet_bd (tw (zun z p)) (p - zbg z (zun z p))
  unfold zTp
  omega
theorem cSw.up1 {G : Nat → Nat → Int} {i : Nat} {x : Int} (h : cSw m S I z mk G) : cSw m S I z mk (x_up G 61 i x) := by
  obtain ⟨M, ha, h2⟩ := h
  exact ⟨M, ha.cg ((FR.rf (S := [61])).up (by decide)) (by decide) (by decide) (by decide), h2⟩
abbrev zrkS : List Nat := [61]
abbrev pRk (L : List Nat) (G0 : Nat → Nat → Int) (m : Nat) (S : Nat → Nat) (I : Nat → Nat → Nat) (z mk T : Nat → Nat) : x_Q := qL L fun x G' => ((x = (zrk m S I z mk T (zbg z 4) : Nat) ∧ zoks m S I z mk T (zbg z 4)) ∨ (x = -1 ∧ ¬ zoks m S I z mk T (zbg z 4))) ∧ FR zrkS G0 G' ∧ x_Fin xFL G'
theorem l_fi_rkK {u : Nat} {G0 : Nat → Nat → Int} (hL : x_SL L) (hz : cFL z G0) (h : cSw m S I z mk G0) (hT : ∀ u, u < 4 → G0 50 u = tw u ∧ (-2147483648 ≤ tw u ∧ tw u < 2147483648) ∧ zgood (tw u) (z u)) (hu : u < 4)
    (cont : ∀ (G : Nat → Nat → Int) (o6 o7 o8 o9 : Option (Nat × Int)), zoks m S I z mk (zTp z tw) (zbg z (u + 1)) → (∀ p, p < zbg z (u + 1) → G 61 (3 + p) = zTp z tw p) → FR zrkS G0 G → x_Fin xFL G → X mX4_rankOf 2 0 0 (pRk L G0 m S I z mk (zTp z tw)) 199 [some (vR 55), some (vR 50), some (vL (zrk m S I z mk (zTp z tw) (zbg z (u + 1)))), none, some (vI u), some (vI (z u)), o6, o7, o8, o9] [] L G 0 0) :
    ∀ (r k : Nat) (G : Nat → Nat → Int) (o6 o7 o8 o9 : Option (Nat × Int)), k + r = z u → zoks m S I z mk (zTp z tw) (zbg z u + k) → (∀ p, p < zbg z u + k → G 61 (3 + p) = zTp z tw p) → FR zrkS G0 G → x_Fin xFL G →
    X mX4_rankOf 2 0 0 (pRk L G0 m S I z mk (zTp z tw)) 21 [some (vR 55), some (vR 50), some (vL (zrk m S I z mk (zTp z tw) (zbg z u + k))), none, some (vI u), some (vI k), o6, o7, o8, o9] [] L G 0 0 := by
  have hN := zbg_4 (fun u hu => (hz.2 u hu).2.2) 4 (Nat.le_refl _)
  have hbs : zbg z (u + 1) = zbg z u + z u := rfl
  have hb4 := zbg_le (z := z) (show u + 1 ≤ 4 by omega)
  intro r
  induction r with
  | zero =>
    intro k G o6 o7 o8 o9 hk hok hch hQ hF
    have hz' : cFL z G := hz.FR hQ (by decide) (by decide) (by decide)
    obtain ⟨g1, g2, g3⟩ := hz'.2 u hu
    have hk : k = z u := by omega
    subst hk
    refine x_iload (pc := 21) dX4_rankOf_21 rfl ?_
    refine x_aloadn (pc := 23) dX4_rankOf_23 rfl ?_
    refine x_getR (59) (pc := 24) dX4_rankOf_24 fl_X4_18 k_55 (hL 55 (by decide) (by decide)) (f_55_1 hF) ?_
    refine x_iload (pc := 27) dX4_rankOf_27 rfl ?_
    refine x_iald (u) (pc := 29) dX4_rankOf_29 k_59 (hL 59 (by decide) (by decide)) (⟨by omega, by omega, by decide⟩) ?_
    refine x_cge (tgt := 199) (pc := 30) dX4_rankOf_30 (by decide) (by omega) (fun c_30 => ?_) (fun c_30 => ?_)
    rotate_left
    · skip
      exact absurd c_30 (by omega)
    rw [← hbs]
    exact cont G _ _ _ _ hok hch hQ hF
  | succ r ih =>
    intro k G o6 o7 o8 o9 hk hok hch hQ hF
    have hz' : cFL z G := hz.FR hQ (by decide) (by decide) (by decide)
    obtain ⟨g1, g2, g3⟩ := hz'.2 u hu
    have h' : cSw m S I z mk G := by
      obtain ⟨M, ha, h2⟩ := h
      exact ⟨M, ha.cg hQ (by decide) (by decide) (by decide), h2⟩
    obtain ⟨t1, t2, t3⟩ := hT u hu
    have t1 : G 50 u = tw u := by rw [hQ _ (by decide)]; exact t1
    obtain ⟨p, hp⟩ : ∃ p, p = zbg z u + k := ⟨_, rfl⟩
    have hzl := zlet_bd (tw u) k
    have hzg := t3 k (by omega)
    have hTp : zlet (tw u) k = (zTp z tw p : Nat) := by
      unfold zTp
      rw [hp, zun_at hu (by omega), show zbg z u + k - zbg z u = k by omega]; omega
    have hT3 : zTp z tw p < 3 := by omega
    have h1 := h'.at (i := 3 + p) (by omega)
    have hA := zA_lt (m := m) (S := S) (I := I) (z := z) (mk := mk) (3 + p)
    have hp3 := zpop_3 _ hA
    have ih2 := ih (k + 1)
    rw [show zbg z u + (k + 1) = p + 1 by omega] at ih2
    have hstep : ∀ (G' : Nat → Nat → Int), G' = x_up G 61 (3 + p) (zTp z tw p : Nat) → (∀ p', p' < p + 1 → G' 61 (3 + p') = zTp z tw p') := fun G' hG' p' hp' => by
      rw [hG']
      by_cases e : p' = p
      · rw [e]; exact x_up_s
      · rw [x_up_k (by omega)]; exact hch p' (by omega)
    have hoks : zok m S I z mk (zTp z tw) p → zoks m S I z mk (zTp z tw) (p + 1) := fun w p' hp' => by
      by_cases e : p' = p
      · rw [e]; exact w
      · exact hok p' (by omega)
    have bad : ¬ zok m S I z mk (zTp z tw) p → ¬ zoks m S I z mk (zTp z tw) (zbg z 4) := fun w q => w (q p (by omega))
    rw [← hp]
    have hrs : zrk m S I z mk (zTp z tw) (p + 1) = if zF m S I z (3 + p) = 3 + p then zrk m S I z mk (zTp z tw) p * zpop (zA m S I z mk (3 + p)) + zps (zA m S I z mk (3 + p)) (zTp z tw p) else zrk m S I z mk (zTp z tw) p := rfl
    rw [hrs] at ih2
    have hnn : ((3 + zbg z u : Nat) : Int) + (k : Int) = ((3 + p : Nat) : Int) := by omega
    by_cases c3 : zF m S I z (3 + p) < 3
    · -- with a letter
      rw [if_neg (by omega)] at ih2
      refine x_iload (pc := 21) dX4_rankOf_21 rfl ?_
      refine x_aloadn (pc := 23) dX4_rankOf_23 rfl ?_
      refine x_getR (59) (pc := 24) dX4_rankOf_24 fl_X4_18 k_55 (hL 55 (by decide) (by decide)) (f_55_1 hF) ?_
      refine x_iload (pc := 27) dX4_rankOf_27 rfl ?_
      refine x_iald (u) (pc := 29) dX4_rankOf_29 k_59 (hL 59 (by decide) (by decide)) (⟨by omega, by omega, by decide⟩) ?_
      refine x_cge (tgt := 199) (pc := 30) dX4_rankOf_30 (by decide) (by omega) (fun c_30 => ?_) (fun c_30 => ?_)
      · skip
        exact absurd c_30 (by omega)
      refine x_aloadn (pc := 33) dX4_rankOf_33 rfl ?_
      refine x_getR (60) (pc := 34) dX4_rankOf_34 fl_X4_22 k_55 (hL 55 (by decide) (by decide)) (f_55_2 hF) ?_
      refine x_iload (pc := 37) dX4_rankOf_37 rfl ?_
      refine x_iald (u) (pc := 39) dX4_rankOf_39 k_60 (hL 60 (by decide) (by decide)) (⟨by omega, by omega, by decide⟩) ?_
      rw [g2]
      refine x_iload (pc := 40) dX4_rankOf_40 rfl ?_
      refine x_iadd (pc := 42) dX4_rankOf_42 ?_
      rw [hnn]
      refine x_istore (pc := 43) dX4_rankOf_43 (by decide) rfl ?_
      refine x_aloadn (pc := 45) dX4_rankOf_45 rfl ?_
      refine x_getR (56) (pc := 46) dX4_rankOf_46 fl_X4_12 k_55 (hL 55 (by decide) (by decide)) (f_55_0 hF) ?_
      refine x_iload (pc := 49) dX4_rankOf_49 rfl ?_
      refine x_cVI (pc := 51) dX4_rankOf_51 lk_X4_96 (c_al_first hL hF h' (i := 3 + p) (by omega)) k_56 ⟨by decide, rfl⟩ (hL 56 (by decide) (by decide)) (⟨by decide, by decide⟩) (Nat.le_of_ble_eq_true rfl) rfl ?_
      rintro x G' ⟨rfl, rfl⟩
      refine x_istore (pc := 54) dX4_rankOf_54 (by decide) rfl ?_
      refine x_aloadn (pc := 56) dX4_rankOf_56 rfl ?_
      refine x_iload (pc := 57) dX4_rankOf_57 rfl ?_
      refine x_iald (u) (pc := 59) dX4_rankOf_59 k_50 (hL 50 (by decide) (by decide)) (⟨by omega, by omega, by decide⟩) ?_
      rw [t1]
      refine x_i2l (pc := 60) dX4_rankOf_60 (by omega) ?_
      refine x_iload (pc := 61) dX4_rankOf_61 rfl ?_
      refine x_cSNI (pc := 63) dX4_rankOf_63 lk_X4_113 (c_ts_letterOf (w := tw u) (i := k) (by omega) (by omega)) (⟨by decide, by decide⟩) (Nat.le_of_ble_eq_true rfl) rfl ?_
      rintro x G' ⟨rfl, rfl⟩
      rw [hTp]
      refine x_istore (pc := 66) dX4_rankOf_66 (by decide) rfl ?_
      refine x_iload (pc := 68) dX4_rankOf_68 rfl ?_
      refine x_ilt (tgt := 83) (pc := 70) dX4_rankOf_70 (by decide) (by omega) (fun c_70 => ?_) (fun c_70 => ?_)
      · skip
        exact absurd c_70 (by omega)
      refine x_iload (pc := 73) dX4_rankOf_73 rfl ?_
      refine x_aloadn (pc := 75) dX4_rankOf_75 rfl ?_
      refine x_getR (61) (pc := 76) dX4_rankOf_76 fl_X4_25 k_55 (hL 55 (by decide) (by decide)) (f_55_3 hF) ?_
      refine x_alen (pc := 79) dX4_rankOf_79 k_61 (by decide) (hL 61 (by decide) (by decide)) ?_
      refine x_clt (tgt := 87) (pc := 80) dX4_rankOf_80 (by decide) (by omega) (fun c_80 => ?_) (fun c_80 => ?_)
      rotate_left
      · skip
        exact absurd c_80 (by omega)
      refine x_iload (pc := 87) dX4_rankOf_87 rfl ?_
      refine x_iconst (pc := 89) dX4_rankOf_89 ?_
      refine x_cge (tgt := 103) (pc := 90) dX4_rankOf_90 (by decide) (by omega) (fun c_90 => ?_) (fun c_90 => ?_)
      · skip
        exact absurd c_90 (by omega)
      refine x_iload (pc := 93) dX4_rankOf_93 rfl ?_
      refine x_iload (pc := 95) dX4_rankOf_95 rfl ?_
      refine x_ceq (tgt := 126) (pc := 97) dX4_rankOf_97 (by decide) (by omega) (fun c_97 => ?_) (fun c_97 => ?_)
      · skip
        refine x_aloadn (pc := 126) dX4_rankOf_126 rfl ?_
        refine x_getR (61) (pc := 127) dX4_rankOf_127 fl_X4_25 k_55 (hL 55 (by decide) (by decide)) (f_55_3 hF) ?_
        refine x_iload (pc := 130) dX4_rankOf_130 rfl ?_
        refine x_iload (pc := 132) dX4_rankOf_132 rfl ?_
        refine x_iastF (3 + p) (pc := 134) dX4_rankOf_134 k_61 (hL 61 (by decide) (by decide)) (⟨by omega, by omega, by decide⟩) hF (fun hF => ?_)
        refine x_iload (pc := 135) dX4_rankOf_135 rfl ?_
        refine x_iload (pc := 137) dX4_rankOf_137 rfl ?_
        refine x_ceq (tgt := 145) (pc := 139) dX4_rankOf_139 (by decide) (by omega) (fun c_139 => ?_) (fun c_139 => ?_)
        · skip
          exact absurd c_139 (by omega)
        refine x_goto (tgt := 193) (pc := 142) dX4_rankOf_142 (by decide) ?_
        refine x_iinc (pc := 193) dX4_rankOf_193 rfl (by decide) rfl ?_
        refine x_goto (tgt := 21) (pc := 196) dX4_rankOf_196 (by decide) ?_
        exact ih2 _ _ _ _ _ (by omega) (hoks ⟨fun _ => by omega, fun w => by omega, fun w => by omega⟩) (hstep _ rfl) (hQ.up (by decide)) hF
      · skip
        refine x_goto (tgt := 122) (pc := 100) dX4_rankOf_100 (by decide) ?_
        refine x_ldc2 (pc := 122) dX4_rankOf_122 co_X4_117 ?_
        refine x_rL (pc := 125) dX4_rankOf_125 rfl ?_
        exact ⟨Or.inr ⟨rfl, bad (fun w => c_97 (by have := w.1 c3; omega))⟩, hQ, hF⟩
    · by_cases cl : zF m S I z (3 + p) = 3 + p
      · -- a leading place
        rw [if_pos cl] at ih2
        have hsh : ((zA m S I z mk (3 + p) : Nat) : Int) / 2 ^ (zTp z tw p) = ((zA m S I z mk (3 + p) / 2 ^ (zTp z tw p) : Nat) : Int) := by simp
        have hbt : ((zA m S I z mk (3 + p) / 2 ^ (zTp z tw p) : Nat) : Int) % 2 = (zbt (zA m S I z mk (3 + p)) (zTp z tw p) : Nat) := by unfold zbt; omega
        have hb01 := zbt_01 (zA m S I z mk (3 + p)) (zTp z tw p)
        have hp8 : 2 ^ (zTp z tw p) < 8 := by rcases (show zTp z tw p = 0 ∨ zTp z tw p = 1 ∨ zTp z tw p = 2 by omega) with e | e | e <;> rw [e] <;> decide
        have hp1 : 1 ≤ 2 ^ (zTp z tw p) := Nat.pow_pos (by decide)
        have hm1 : (1 : Int) * 2 ^ (zTp z tw p) - 1 = ((2 ^ (zTp z tw p) - 1 : Nat) : Int) := by
          have e : (1 : Int) * 2 ^ (zTp z tw p) = ((2 ^ (zTp z tw p) : Nat) : Int) := by simp
          rw [e]; omega
        obtain ⟨q1, q2⟩ := zand_ps _ hA (zTp z tw p) hT3
        have hps2 := zps_le hA hT3
        have hsum : ((zrk m S I z mk (zTp z tw) p : Nat) : Int) * ((zpop (zA m S I z mk (3 + p)) : Nat) : Int) + ((zps (zA m S I z mk (3 + p)) (zTp z tw p) : Nat) : Int) = ((zrk m S I z mk (zTp z tw) p * zpop (zA m S I z mk (3 + p)) + zps (zA m S I z mk (3 + p)) (zTp z tw p) : Nat) : Int) := by simp
        refine x_iload (pc := 21) dX4_rankOf_21 rfl ?_
        refine x_aloadn (pc := 23) dX4_rankOf_23 rfl ?_
        refine x_getR (59) (pc := 24) dX4_rankOf_24 fl_X4_18 k_55 (hL 55 (by decide) (by decide)) (f_55_1 hF) ?_
        refine x_iload (pc := 27) dX4_rankOf_27 rfl ?_
        refine x_iald (u) (pc := 29) dX4_rankOf_29 k_59 (hL 59 (by decide) (by decide)) (⟨by omega, by omega, by decide⟩) ?_
        refine x_cge (tgt := 199) (pc := 30) dX4_rankOf_30 (by decide) (by omega) (fun c_30 => ?_) (fun c_30 => ?_)
        · skip
          exact absurd c_30 (by omega)
        refine x_aloadn (pc := 33) dX4_rankOf_33 rfl ?_
        refine x_getR (60) (pc := 34) dX4_rankOf_34 fl_X4_22 k_55 (hL 55 (by decide) (by decide)) (f_55_2 hF) ?_
        refine x_iload (pc := 37) dX4_rankOf_37 rfl ?_
        refine x_iald (u) (pc := 39) dX4_rankOf_39 k_60 (hL 60 (by decide) (by decide)) (⟨by omega, by omega, by decide⟩) ?_
        rw [g2]
        refine x_iload (pc := 40) dX4_rankOf_40 rfl ?_
        refine x_iadd (pc := 42) dX4_rankOf_42 ?_
        rw [hnn]
        refine x_istore (pc := 43) dX4_rankOf_43 (by decide) rfl ?_
        refine x_aloadn (pc := 45) dX4_rankOf_45 rfl ?_
        refine x_getR (56) (pc := 46) dX4_rankOf_46 fl_X4_12 k_55 (hL 55 (by decide) (by decide)) (f_55_0 hF) ?_
        refine x_iload (pc := 49) dX4_rankOf_49 rfl ?_
        refine x_cVI (pc := 51) dX4_rankOf_51 lk_X4_96 (c_al_first hL hF h' (i := 3 + p) (by omega)) k_56 ⟨by decide, rfl⟩ (hL 56 (by decide) (by decide)) (⟨by decide, by decide⟩) (Nat.le_of_ble_eq_true rfl) rfl ?_
        rintro x G' ⟨rfl, rfl⟩
        refine x_istore (pc := 54) dX4_rankOf_54 (by decide) rfl ?_
        refine x_aloadn (pc := 56) dX4_rankOf_56 rfl ?_
        refine x_iload (pc := 57) dX4_rankOf_57 rfl ?_
        refine x_iald (u) (pc := 59) dX4_rankOf_59 k_50 (hL 50 (by decide) (by decide)) (⟨by omega, by omega, by decide⟩) ?_
        rw [t1]
        refine x_i2l (pc := 60) dX4_rankOf_60 (by omega) ?_
        refine x_iload (pc := 61) dX4_rankOf_61 rfl ?_
        refine x_cSNI (pc := 63) dX4_rankOf_63 lk_X4_113 (c_ts_letterOf (w := tw u) (i := k) (by omega) (by omega)) (⟨by decide, by decide⟩) (Nat.le_of_ble_eq_true rfl) rfl ?_
        rintro x G' ⟨rfl, rfl⟩
        rw [hTp]
        refine x_istore (pc := 66) dX4_rankOf_66 (by decide) rfl ?_
        refine x_iload (pc := 68) dX4_rankOf_68 rfl ?_
        refine x_ilt (tgt := 83) (pc := 70) dX4_rankOf_70 (by decide) (by omega) (fun c_70 => ?_) (fun c_70 => ?_)
        · skip
          exact absurd c_70 (by omega)
        refine x_iload (pc := 73) dX4_rankOf_73 rfl ?_
        refine x_aloadn (pc := 75) dX4_rankOf_75 rfl ?_
        refine x_getR (61) (pc := 76) dX4_rankOf_76 fl_X4_25 k_55 (hL 55 (by decide) (by decide)) (f_55_3 hF) ?_
        refine x_alen (pc := 79) dX4_rankOf_79 k_61 (by decide) (hL 61 (by decide) (by decide)) ?_
        refine x_clt (tgt := 87) (pc := 80) dX4_rankOf_80 (by decide) (by omega) (fun c_80 => ?_) (fun c_80 => ?_)
        rotate_left
        · skip
          exact absurd c_80 (by omega)
        refine x_iload (pc := 87) dX4_rankOf_87 rfl ?_
        refine x_iconst (pc := 89) dX4_rankOf_89 ?_
        refine x_cge (tgt := 103) (pc := 90) dX4_rankOf_90 (by decide) (by omega) (fun c_90 => ?_) (fun c_90 => ?_)
        rotate_left
        · skip
          exact absurd c_90 (by omega)
        refine x_iload (pc := 103) dX4_rankOf_103 rfl ?_
        refine x_iload (pc := 105) dX4_rankOf_105 rfl ?_
        refine x_ceq (tgt := 126) (pc := 107) dX4_rankOf_107 (by decide) (by omega) (fun c_107 => ?_) (fun c_107 => ?_)
        rotate_left
        · skip
          exact absurd (by omega) c_107
        refine x_aloadn (pc := 126) dX4_rankOf_126 rfl ?_
        refine x_getR (61) (pc := 127) dX4_rankOf_127 fl_X4_25 k_55 (hL 55 (by decide) (by decide)) (f_55_3 hF) ?_
        refine x_iload (pc := 130) dX4_rankOf_130 rfl ?_
        refine x_iload (pc := 132) dX4_rankOf_132 rfl ?_
        refine x_iastF (3 + p) (pc := 134) dX4_rankOf_134 k_61 (hL 61 (by decide) (by decide)) (⟨by omega, by omega, by decide⟩) hF (fun hF => ?_)
        have h2 := h'.up1 (i := 3 + p) (x := ((zTp z tw p : Nat) : Int))
        refine x_iload (pc := 135) dX4_rankOf_135 rfl ?_
        refine x_iload (pc := 137) dX4_rankOf_137 rfl ?_
        refine x_ceq (tgt := 145) (pc := 139) dX4_rankOf_139 (by decide) (by omega) (fun c_139 => ?_) (fun c_139 => ?_)
        rotate_left
        · skip
          exact absurd (by omega) c_139
        refine x_aloadn (pc := 145) dX4_rankOf_145 rfl ?_
        refine x_getR (56) (pc := 146) dX4_rankOf_146 fl_X4_12 k_55 (hL 55 (by decide) (by decide)) (f_55_0 hF) ?_
        refine x_iload (pc := 149) dX4_rankOf_149 rfl ?_
        refine x_cVI (pc := 151) dX4_rankOf_151 lk_X4_99 (c_al_letters hL hF h2 (i := 3 + p) (by omega) cl) k_56 ⟨by decide, rfl⟩ (hL 56 (by decide) (by decide)) (⟨by decide, by decide⟩) (Nat.le_of_ble_eq_true rfl) rfl ?_
        rintro x G' ⟨rfl, rfl⟩
        refine x_istore (pc := 154) dX4_rankOf_154 (by decide) rfl ?_
        refine x_iload (pc := 156) dX4_rankOf_156 rfl ?_
        refine x_iload (pc := 158) dX4_rankOf_158 rfl ?_
        refine x_ishr (pc := 160) dX4_rankOf_160 (zTp z tw p) rfl (by omega) (by omega) ?_
        refine x_iconst (pc := 161) dX4_rankOf_161 ?_
        refine x_iandm (pc := 162) dX4_rankOf_162 1 2 (by decide) (by decide) (by decide) ?_
        rw [hsh, hbt]
        refine x_ine (tgt := 170) (pc := 163) dX4_rankOf_163 (by decide) (by omega) (fun c_163 => ?_) (fun c_163 => ?_)
        · skip
          refine x_lloadn (pc := 170) dX4_rankOf_170 rfl ?_
          refine x_iload (pc := 171) dX4_rankOf_171 rfl ?_
          refine x_cSI (pc := 173) dX4_rankOf_173 lk_X4_102 (c_bitCount (a := zA m S I z mk (3 + p)) (by omega)) (⟨by decide, by decide⟩) (Nat.le_of_ble_eq_true rfl) rfl ?_
          rintro x G' ⟨rfl, rfl⟩
          refine x_i2l (pc := 176) dX4_rankOf_176 (by omega) ?_
          refine x_lmul (pc := 177) dX4_rankOf_177 ?_
          refine x_iload (pc := 178) dX4_rankOf_178 rfl ?_
          refine x_iconst (pc := 180) dX4_rankOf_180 ?_
          refine x_iload (pc := 181) dX4_rankOf_181 rfl ?_
          refine x_ishl (pc := 183) dX4_rankOf_183 (zTp z tw p) rfl (by omega) ?_
          refine x_iconst (pc := 184) dX4_rankOf_184 ?_
          refine x_isub (pc := 185) dX4_rankOf_185 ?_
          rw [hm1]
          refine x_iandN (pc := 186) dX4_rankOf_186 (zA m S I z mk (3 + p)) (2 ^ (zTp z tw p) - 1) rfl rfl (by omega) ?_
          refine x_cSI (pc := 187) dX4_rankOf_187 lk_X4_102 (c_bitCount (a := zA m S I z mk (3 + p) &&& (2 ^ (zTp z tw p) - 1)) (by omega)) (⟨by decide, by decide⟩) (Nat.le_of_ble_eq_true rfl) rfl ?_
          rintro x G' ⟨rfl, rfl⟩
          rw [q1]
          refine x_i2l (pc := 190) dX4_rankOf_190 (by omega) ?_
          refine x_ladd (pc := 191) dX4_rankOf_191 ?_
          rw [hsum]
          refine x_lstoren (pc := 192) dX4_rankOf_192 rfl (by decide) rfl ?_
          refine x_iinc (pc := 193) dX4_rankOf_193 rfl (by decide) rfl ?_
          refine x_goto (tgt := 21) (pc := 196) dX4_rankOf_196 (by decide) ?_
          refine ih2 _ _ _ _ _ (by omega) (hoks ⟨fun w => by omega, fun _ => ?_, fun _ => by omega⟩) (hstep _ rfl) (hQ.up (by decide)) hF
          rw [cl, show 3 + p - 3 = p by omega]
        · skip
          refine x_ldc2 (pc := 166) dX4_rankOf_166 co_X4_117 ?_
          refine x_rL (pc := 169) dX4_rankOf_169 rfl ?_
          exact ⟨Or.inr ⟨rfl, bad (fun w => by have := w.2.2 cl; omega)⟩, hQ.up (by decide), hF⟩
      · -- a place that follows another one
        rw [if_neg cl] at ih2
        have hch2 := hch (zF m S I z (3 + p) - 3) (by omega)
        have hT4 := zTp_le (z := z) (tw := tw) (zF m S I z (3 + p) - 3)
        refine x_iload (pc := 21) dX4_rankOf_21 rfl ?_
        refine x_aloadn (pc := 23) dX4_rankOf_23 rfl ?_
        refine x_getR (59) (pc := 24) dX4_rankOf_24 fl_X4_18 k_55 (hL 55 (by decide) (by decide)) (f_55_1 hF) ?_
        refine x_iload (pc := 27) dX4_rankOf_27 rfl ?_
        refine x_iald (u) (pc := 29) dX4_rankOf_29 k_59 (hL 59 (by decide) (by decide)) (⟨by omega, by omega, by decide⟩) ?_
        refine x_cge (tgt := 199) (pc := 30) dX4_rankOf_30 (by decide) (by omega) (fun c_30 => ?_) (fun c_30 => ?_)
        · skip
          exact absurd c_30 (by omega)
        refine x_aloadn (pc := 33) dX4_rankOf_33 rfl ?_
        refine x_getR (60) (pc := 34) dX4_rankOf_34 fl_X4_22 k_55 (hL 55 (by decide) (by decide)) (f_55_2 hF) ?_
        refine x_iload (pc := 37) dX4_rankOf_37 rfl ?_
        refine x_iald (u) (pc := 39) dX4_rankOf_39 k_60 (hL 60 (by decide) (by decide)) (⟨by omega, by omega, by decide⟩) ?_
        rw [g2]
        refine x_iload (pc := 40) dX4_rankOf_40 rfl ?_
        refine x_iadd (pc := 42) dX4_rankOf_42 ?_
        rw [hnn]
        refine x_istore (pc := 43) dX4_rankOf_43 (by decide) rfl ?_
        refine x_aloadn (pc := 45) dX4_rankOf_45 rfl ?_
        refine x_getR (56) (pc := 46) dX4_rankOf_46 fl_X4_12 k_55 (hL 55 (by decide) (by decide)) (f_55_0 hF) ?_
        refine x_iload (pc := 49) dX4_rankOf_49 rfl ?_
        refine x_cVI (pc := 51) dX4_rankOf_51 lk_X4_96 (c_al_first hL hF h' (i := 3 + p) (by omega)) k_56 ⟨by decide, rfl⟩ (hL 56 (by decide) (by decide)) (⟨by decide, by decide⟩) (Nat.le_of_ble_eq_true rfl) rfl ?_
        rintro x G' ⟨rfl, rfl⟩
        refine x_istore (pc := 54) dX4_rankOf_54 (by decide) rfl ?_
        refine x_aloadn (pc := 56) dX4_rankOf_56 rfl ?_
        refine x_iload (pc := 57) dX4_rankOf_57 rfl ?_
        refine x_iald (u) (pc := 59) dX4_rankOf_59 k_50 (hL 50 (by decide) (by decide)) (⟨by omega, by omega, by decide⟩) ?_
        rw [t1]
        refine x_i2l (pc := 60) dX4_rankOf_60 (by omega) ?_
        refine x_iload (pc := 61) dX4_rankOf_61 rfl ?_
        refine x_cSNI (pc := 63) dX4_rankOf_63 lk_X4_113 (c_ts_letterOf (w := tw u) (i := k) (by omega) (by omega)) (⟨by decide, by decide⟩) (Nat.le_of_ble_eq_true rfl) rfl ?_
        rintro x G' ⟨rfl, rfl⟩
        rw [hTp]
        refine x_istore (pc := 66) dX4_rankOf_66 (by decide) rfl ?_
        refine x_iload (pc := 68) dX4_rankOf_68 rfl ?_
        refine x_ilt (tgt := 83) (pc := 70) dX4_rankOf_70 (by decide) (by omega) (fun c_70 => ?_) (fun c_70 => ?_)
        · skip
          exact absurd c_70 (by omega)
        refine x_iload (pc := 73) dX4_rankOf_73 rfl ?_
        refine x_aloadn (pc := 75) dX4_rankOf_75 rfl ?_
        refine x_getR (61) (pc := 76) dX4_rankOf_76 fl_X4_25 k_55 (hL 55 (by decide) (by decide)) (f_55_3 hF) ?_
        refine x_alen (pc := 79) dX4_rankOf_79 k_61 (by decide) (hL 61 (by decide) (by decide)) ?_
        refine x_clt (tgt := 87) (pc := 80) dX4_rankOf_80 (by decide) (by omega) (fun c_80 => ?_) (fun c_80 => ?_)
        rotate_left
        · skip
          exact absurd c_80 (by omega)
        refine x_iload (pc := 87) dX4_rankOf_87 rfl ?_
        refine x_iconst (pc := 89) dX4_rankOf_89 ?_
        refine x_cge (tgt := 103) (pc := 90) dX4_rankOf_90 (by decide) (by omega) (fun c_90 => ?_) (fun c_90 => ?_)
        rotate_left
        · skip
          exact absurd c_90 (by omega)
        refine x_iload (pc := 103) dX4_rankOf_103 rfl ?_
        refine x_iload (pc := 105) dX4_rankOf_105 rfl ?_
        refine x_ceq (tgt := 126) (pc := 107) dX4_rankOf_107 (by decide) (by omega) (fun c_107 => ?_) (fun c_107 => ?_)
        · skip
          exact absurd (by omega) cl
        refine x_aloadn (pc := 110) dX4_rankOf_110 rfl ?_
        refine x_getR (61) (pc := 111) dX4_rankOf_111 fl_X4_25 k_55 (hL 55 (by decide) (by decide)) (f_55_3 hF) ?_
        refine x_iload (pc := 114) dX4_rankOf_114 rfl ?_
        refine x_iald (3 + (zF m S I z (3 + p) - 3)) (pc := 116) dX4_rankOf_116 k_61 (hL 61 (by decide) (by decide)) (⟨by omega, by omega, by decide⟩) ?_
        rw [hch2]
        refine x_iload (pc := 117) dX4_rankOf_117 rfl ?_
        refine x_ceq (tgt := 126) (pc := 119) dX4_rankOf_119 (by decide) (by omega) (fun c_119 => ?_) (fun c_119 => ?_)
        · skip
          refine x_aloadn (pc := 126) dX4_rankOf_126 rfl ?_
          refine x_getR (61) (pc := 127) dX4_rankOf_127 fl_X4_25 k_55 (hL 55 (by decide) (by decide)) (f_55_3 hF) ?_
          refine x_iload (pc := 130) dX4_rankOf_130 rfl ?_
          refine x_iload (pc := 132) dX4_rankOf_132 rfl ?_
          refine x_iastF (3 + p) (pc := 134) dX4_rankOf_134 k_61 (hL 61 (by decide) (by decide)) (⟨by omega, by omega, by decide⟩) hF (fun hF => ?_)
          refine x_iload (pc := 135) dX4_rankOf_135 rfl ?_
          refine x_iload (pc := 137) dX4_rankOf_137 rfl ?_
          refine x_ceq (tgt := 145) (pc := 139) dX4_rankOf_139 (by decide) (by omega) (fun c_139 => ?_) (fun c_139 => ?_)
          · skip
            exact absurd (by omega) cl
          refine x_goto (tgt := 193) (pc := 142) dX4_rankOf_142 (by decide) ?_
          refine x_iinc (pc := 193) dX4_rankOf_193 rfl (by decide) rfl ?_
          refine x_goto (tgt := 21) (pc := 196) dX4_rankOf_196 (by decide) ?_
          exact ih2 _ _ _ _ _ (by omega) (hoks ⟨fun w => by omega, fun _ => by omega, fun w => absurd w cl⟩) (hstep _ rfl) (hQ.up (by decide)) hF
        · skip
          refine x_ldc2 (pc := 122) dX4_rankOf_122 co_X4_117 ?_
          refine x_rL (pc := 125) dX4_rankOf_125 rfl ?_
          exact ⟨Or.inr ⟨rfl, bad (fun w => c_119 (by have := w.2.1 (by omega); omega))⟩, hQ, hF⟩
theorem l_fi_rkU {G0 : Nat → Nat → Int} (hL : x_SL L) (hz : cFL z G0) (h : cSw m S I z mk G0) (hT : ∀ u, u < 4 → G0 50 u = tw u ∧ (-2147483648 ≤ tw u ∧ tw u < 2147483648) ∧ zgood (tw u) (z u)) :
    ∀ (r u : Nat) (G : Nat → Nat → Int) (o5 o6 o7 o8 o9 : Option (Nat × Int)), u + r = 4 → zoks m S I z mk (zTp z tw) (zbg z u) → (∀ p, p < zbg z u → G 61 (3 + p) = zTp z tw p) → FR zrkS G0 G → x_Fin xFL G →
    X mX4_rankOf 2 0 0 (pRk L G0 m S I z mk (zTp z tw)) 5 [some (vR 55), some (vR 50), some (vL (zrk m S I z mk (zTp z tw) (zbg z u))), none, some (vI u), o5, o6, o7, o8, o9] [] L G 0 0 := by
  intro r
  induction r with
  | zero =>
    intro u G o5 o6 o7 o8 o9 hu hok hch hQ hF
    have hu : u = 4 := by omega
    subst hu
    refine x_iload (pc := 5) dX4_rankOf_5 rfl ?_
    refine x_iconst (pc := 7) dX4_rankOf_7 ?_
    refine x_cge (tgt := 205) (pc := 8) dX4_rankOf_8 (by decide) (by omega) (fun c_8 => ?_) (fun c_8 => ?_)
    rotate_left
    · skip
      exact absurd c_8 (by decide)
    refine x_lloadn (pc := 205) dX4_rankOf_205 rfl ?_
    refine x_rL (pc := 206) dX4_rankOf_206 rfl ?_
    exact ⟨Or.inl ⟨rfl, hok⟩, hQ, hF⟩
  | succ r ih =>
    intro u G o5 o6 o7 o8 o9 hu hok hch hQ hF
    refine x_iload (pc := 5) dX4_rankOf_5 rfl ?_
    refine x_iconst (pc := 7) dX4_rankOf_7 ?_
    refine x_cge (tgt := 205) (pc := 8) dX4_rankOf_8 (by decide) (by omega) (fun c_8 => ?_) (fun c_8 => ?_)
    · skip
      exact absurd c_8 (by omega)
    refine x_iload (pc := 11) dX4_rankOf_11 rfl ?_
    refine x_aloadn (pc := 13) dX4_rankOf_13 rfl ?_
    refine x_alen (pc := 14) dX4_rankOf_14 k_50 (by decide) (hL 50 (by decide) (by decide)) ?_
    refine x_cge (tgt := 205) (pc := 15) dX4_rankOf_15 (by decide) (by omega) (fun c_15 => ?_) (fun c_15 => ?_)
    · skip
      exact absurd c_15 (by omega)
    refine x_iconst (pc := 18) dX4_rankOf_18 ?_
    refine x_istore (pc := 19) dX4_rankOf_19 (by decide) rfl ?_
    refine l_fi_rkK hL hz h hT (show u < 4 by omega) (fun G1 o6 o7 o8 o9 b1 b2 b3 b4 => ?_) (z u) 0 G _ _ _ _ (by omega) hok hch hQ hF
    refine x_iinc (pc := 199) dX4_rankOf_199 rfl (by decide) rfl ?_
    refine x_goto (tgt := 5) (pc := 202) dX4_rankOf_202 (by decide) ?_
    exact ih (u + 1) G1 _ _ _ _ _ (by omega) b1 b2 b3 b4
theorem c_fi_rankOf {G : Nat → Nat → Int} (hL : x_SL L) (hF : x_Fin xFL G) (hz : cFL z G) (h : cSw m S I z mk G) (hT : ∀ u, u < 4 → G 50 u = tw u ∧ (-2147483648 ≤ tw u ∧ tw u < 2147483648) ∧ zgood (tw u) (z u)) :
    CM yX4_rankOf mX4_rankOf 2 0 0 [vR 55, vR 50] L G (pRk L G m S I z mk (zTp z tw)) := by
  refine Ct.of_X (μ := mX4_rankOf) rfl rfl (by decide) (fun h => by cases h) (Nat.le_of_ble_eq_true rfl) rfl ?_
  refine x_lconst (x := 0) (pc := 0) dX4_rankOf_0 (by decide) ?_
  refine x_lstoren (pc := 1) dX4_rankOf_1 rfl (by decide) rfl ?_
  refine x_iconst (pc := 2) dX4_rankOf_2 ?_
  refine x_istore (pc := 3) dX4_rankOf_3 (by decide) rfl ?_
  exact l_fi_rkU hL hz h hT 4 0 G none none none none none (by omega) (fun p hp => absurd hp (Nat.not_lt_zero p)) (fun p hp => absurd hp (Nat.not_lt_zero p)) FR.rf hF
end XRK

