/-! the class: the survey's rows -/
theorem zcode4 : ∀ w, w < 9 → ∀ x, x < 9 → ∀ y, y < 9 → ∀ z, z < 9 → ((w * 4096 ||| x * 256) ||| y * 16) ||| z = 4096 * w + 256 * x + 16 * y + z := by decide +kernel
theorem zcode3 : ∀ w, w < 9 → ∀ x, x < 9 → ∀ y, y < 9 → (w * 4096 ||| x * 256) < 65536 ∧ ((w * 4096 ||| x * 256) ||| y * 16) < 65536 := by decide +kernel
section XSU
variable {m : Nat} {S : Nat → Nat} {I : Nat → Nat → Nat} {z lo hi mk : Nat → Nat} {L : List Nat}
theorem c_an_codeOf {w x y u : Nat} {G : Nat → Nat → Int} (hw : w ≤ 8) (hx : x ≤ 8) (hy : y ≤ 8) (hu : u ≤ 8) :
    CM yX1_codeOf mX1_codeOf 0 0 0 [vI w, vI x, vI y, vI u] L G (qI L fun q G' => q = ((4096 * w + 256 * x + 16 * y + u : Nat) : Int) ∧ G' = G) := by
  have e4 := zcode4 w (by omega) x (by omega) y (by omega) u (by omega)
  have e3 := zcode3 w (by omega) x (by omega) y (by omega)
  refine Ct.of_X (μ := mX1_codeOf) rfl rfl (by decide) (fun h => by cases h) (Nat.le_of_ble_eq_true rfl) rfl ?_
  refine x_iloadn (pc := 0) dX1_codeOf_0 rfl ?_
  refine x_bipush (pc := 1) dX1_codeOf_1 (by decide) ?_
  refine x_ishl (pc := 3) dX1_codeOf_3 12 (by decide) (by decide) ?_
  refine x_iloadn (pc := 4) dX1_codeOf_4 rfl ?_
  refine x_bipush (pc := 5) dX1_codeOf_5 (by decide) ?_
  refine x_ishl (pc := 7) dX1_codeOf_7 8 (by decide) (by decide) ?_
  refine x_iorN (pc := 8) dX1_codeOf_8 (w * 4096) (x * 256) (by omega) (by omega) (by omega) ?_
  refine x_iloadn (pc := 9) dX1_codeOf_9 rfl ?_
  refine x_iconst (pc := 10) dX1_codeOf_10 ?_
  refine x_ishl (pc := 11) dX1_codeOf_11 4 (by decide) (by decide) ?_
  refine x_iorN (pc := 12) dX1_codeOf_12 (w * 4096 ||| x * 256) (y * 16) rfl (by omega) (by omega) ?_
  refine x_iloadn (pc := 13) dX1_codeOf_13 rfl ?_
  refine x_iorN (pc := 14) dX1_codeOf_14 ((w * 4096 ||| x * 256) ||| y * 16) u rfl rfl (by omega) ?_
  refine x_rI (pc := 15) dX1_codeOf_15 rfl ?_
  exact ⟨by rw [e4], rfl⟩
def zss (s l : Int) : Int := if s = -1 then -1 else if s = -2 ∨ s = l then l else -1
theorem zol_bd {u k : Nat} : -1 ≤ zol m S I z mk u k ∧ zol m S I z mk u k ≤ 2 := by
  have h := zla_bd (zA m S I z mk (3 + (zbg z u + k))) 0
  unfold zol
  split
  · split
    · exact h
    · decide
  · decide
theorem l_an_nsK {u : Nat} {s : Nat → Int} {G0 : Nat → Nat → Int} {Q : x_Q} (hL : x_SL L) (hz : cFL z G0) (h : cSw m S I z mk G0) (hs : ∀ c, c < 32 → -2 ≤ s c ∧ s c ≤ 2) (hu : u < 4)
    (cont : ∀ (G : Nat → Nat → Int) (o3 o4 : Option (Nat × Int)), (∀ c, c < 8 * (u + 1) → G 54 c = zss (s c) (zol m S I z mk (c / 8) (c % 8))) → (∀ c, 8 * (u + 1) ≤ c → c < 32 → G 54 c = s c) → FR [54] G0 G → x_Fin xFL G → X mX1_noteSure 3 0 0 Q 86 [some (vR 46), some (vI u), some (vI 8), o3, o4] [] L G 0 0) :
    ∀ (r k : Nat) (G : Nat → Nat → Int) (o3 o4 : Option (Nat × Int)), k + r = 8 → (∀ c, c < 8 * u + k → G 54 c = zss (s c) (zol m S I z mk (c / 8) (c % 8))) → (∀ c, 8 * u + k ≤ c → c < 32 → G 54 c = s c) → FR [54] G0 G → x_Fin xFL G →
    X mX1_noteSure 3 0 0 Q 9 [some (vR 46), some (vI u), some (vI k), o3, o4] [] L G 0 0 := by
  intro r
  induction r with
  | zero =>
    intro k G o3 o4 hk h1 h2 hQ hF
    have hk : k = 8 := by omega
    subst hk
    refine x_iloadn (pc := 9) dX1_noteSure_9 rfl ?_
    refine x_bipush (pc := 10) dX1_noteSure_10 (by decide) ?_
    refine x_cge (tgt := 86) (pc := 12) dX1_noteSure_12 (by decide) (by omega) (fun c_12 => ?_) (fun c_12 => ?_)
    rotate_left
    · skip
      exact absurd c_12 (by decide)
    exact cont G _ _ (fun c hc => h1 c (by omega)) (fun c hc => h2 c (by omega)) hQ hF
  | succ r ih =>
    intro k G o3 o4 hk h1 h2 hQ hF
    have hz' : cFL z G := hz.FR hQ (by decide) (by decide) (by decide)
    have h' : cSw m S I z mk G := by
      obtain ⟨M, ha, h2⟩ := h
      exact ⟨M, ha.cg hQ (by decide) (by decide) (by decide), h2⟩
    obtain ⟨c0, hc0⟩ : ∃ c0, c0 = 8 * u + k := ⟨_, rfl⟩
    have e1 : c0 / 8 = u := by omega
    have e2 : c0 % 8 = k := by omega
    have hsc := h2 c0 (by omega) (by omega)
    have hsb := hs c0 (by omega)
    have hzo := zol_bd (m := m) (S := S) (I := I) (z := z) (mk := mk) (u := u) (k := k)
    have fin : ∀ (x : Int) (G' : Nat → Nat → Int), x = zss (s c0) (zol m S I z mk u k) → G' = x_up G 54 c0 x → (∀ c, c < 8 * u + (k + 1) → G' 54 c = zss (s c) (zol m S I z mk (c / 8) (c % 8))) ∧ (∀ c, 8 * u + (k + 1) ≤ c → c < 32 → G' 54 c = s c) := fun x G' hx hG' => by
      rw [hG']
      refine ⟨fun c hc => ?_, fun c hc1 hc2 => by rw [x_up_k (by omega)]; exact h2 c (by omega) hc2⟩
      by_cases e : c = c0
      · rw [e, x_up_s, hx, e1, e2]
      · rw [x_up_k e]; exact h1 c (by omega)
    have hcell : (u : Int) * 8 + (k : Int) = (c0 : Int) := by omega
    refine x_iloadn (pc := 9) dX1_noteSure_9 rfl ?_
    refine x_bipush (pc := 10) dX1_noteSure_10 (by decide) ?_
    refine x_cge (tgt := 86) (pc := 12) dX1_noteSure_12 (by decide) (by omega) (fun c_12 => ?_) (fun c_12 => ?_)
    · skip
      exact absurd c_12 (by omega)
    refine x_iloadn (pc := 15) dX1_noteSure_15 rfl ?_
    refine x_bipush (pc := 16) dX1_noteSure_16 (by decide) ?_
    refine x_imul (pc := 18) dX1_noteSure_18 ?_
    refine x_iloadn (pc := 19) dX1_noteSure_19 rfl ?_
    refine x_iadd (pc := 20) dX1_noteSure_20 ?_
    rw [hcell]
    refine x_istoren (pc := 21) dX1_noteSure_21 rfl (by decide) rfl ?_
    refine x_aloadn (pc := 22) dX1_noteSure_22 rfl ?_
    refine x_getR (54) (pc := 23) dX1_noteSure_23 fl_X1_33 k_46 (hL 46 (by decide) (by decide)) (f_46_7 hF) ?_
    refine x_iloadn (pc := 26) dX1_noteSure_26 rfl ?_
    refine x_iald (c0) (pc := 27) dX1_noteSure_27 k_54 (hL 54 (by decide) (by decide)) (⟨by omega, by omega, by decide⟩) ?_
    rw [hsc]
    refine x_iconst (pc := 28) dX1_noteSure_28 ?_
    refine x_cne (tgt := 35) (pc := 29) dX1_noteSure_29 (by decide) (by omega) (fun c_29 => ?_) (fun c_29 => ?_)
    · skip
      refine x_aloadn (pc := 35) dX1_noteSure_35 rfl ?_
      refine x_getR (55) (pc := 36) dX1_noteSure_36 fl_X1_39 k_46 (hL 46 (by decide) (by decide)) (f_46_8 hF) ?_
      refine x_iloadn (pc := 39) dX1_noteSure_39 rfl ?_
      refine x_iloadn (pc := 40) dX1_noteSure_40 rfl ?_
      refine x_cVI (pc := 41) dX1_noteSure_41 lk_X1_130 (c_fi_only (m := m) (S := S) (I := I) (mk := mk) hL hF hz' h' hu (by omega)) k_55 ⟨by decide, rfl⟩ (hL 55 (by decide) (by decide)) (⟨by decide, by decide⟩) (Nat.le_of_ble_eq_true rfl) rfl ?_
      rintro x G' ⟨rfl, rfl⟩
      refine x_istore (pc := 44) dX1_noteSure_44 (by decide) rfl ?_
      refine x_aloadn (pc := 46) dX1_noteSure_46 rfl ?_
      refine x_getR (54) (pc := 47) dX1_noteSure_47 fl_X1_33 k_46 (hL 46 (by decide) (by decide)) (f_46_7 hF) ?_
      refine x_iloadn (pc := 50) dX1_noteSure_50 rfl ?_
      refine x_aloadn (pc := 51) dX1_noteSure_51 rfl ?_
      refine x_getR (54) (pc := 52) dX1_noteSure_52 fl_X1_33 k_46 (hL 46 (by decide) (by decide)) (f_46_7 hF) ?_
      refine x_iloadn (pc := 55) dX1_noteSure_55 rfl ?_
      refine x_iald (c0) (pc := 56) dX1_noteSure_56 k_54 (hL 54 (by decide) (by decide)) (⟨by omega, by omega, by decide⟩) ?_
      rw [hsc]
      refine x_bipush (pc := 57) dX1_noteSure_57 (by decide) ?_
      refine x_ceq (tgt := 73) (pc := 59) dX1_noteSure_59 (by decide) (by omega) (fun c_59 => ?_) (fun c_59 => ?_)
      · skip
        refine x_iload (pc := 73) dX1_noteSure_73 rfl ?_
        refine x_goto (tgt := 79) (pc := 75) dX1_noteSure_75 (by decide) ?_
        refine x_iastF (c0) (pc := 79) dX1_noteSure_79 k_54 (hL 54 (by decide) (by decide)) (⟨by omega, by omega, by decide⟩) hF (fun hF => ?_)
        refine x_iinc (pc := 80) dX1_noteSure_80 rfl (by decide) rfl ?_
        refine x_goto (tgt := 9) (pc := 83) dX1_noteSure_83 (by decide) ?_
        first
        | (refine ih (k + 1) G _ _ (by omega) (fun c hc => ?_) (fun c h3 h4 => h2 c (by omega) h4) hQ hF
           by_cases e : c = c0
           · rw [e, hsc]; unfold zss; rw [if_pos c_29]; exact c_29
           · exact h1 c (by omega))
        | (obtain ⟨f1, f2⟩ := fin (zol m S I z mk u k) _ (by unfold zss; rw [if_neg c_29, if_pos (by omega)]) rfl
           exact ih (k + 1) _ _ _ (by omega) f1 f2 (hQ.up (by decide)) hF)
        | (obtain ⟨f1, f2⟩ := fin (-1) _ (by unfold zss; rw [if_neg c_29, if_neg (by omega)]) rfl
           exact ih (k + 1) _ _ _ (by omega) f1 f2 (hQ.up (by decide)) hF)
      · skip
        refine x_aloadn (pc := 62) dX1_noteSure_62 rfl ?_
        refine x_getR (54) (pc := 63) dX1_noteSure_63 fl_X1_33 k_46 (hL 46 (by decide) (by decide)) (f_46_7 hF) ?_
        refine x_iloadn (pc := 66) dX1_noteSure_66 rfl ?_
        refine x_iald (c0) (pc := 67) dX1_noteSure_67 k_54 (hL 54 (by decide) (by decide)) (⟨by omega, by omega, by decide⟩) ?_
        rw [hsc]
        refine x_iload (pc := 68) dX1_noteSure_68 rfl ?_
        refine x_cne (tgt := 78) (pc := 70) dX1_noteSure_70 (by decide) (by omega) (fun c_70 => ?_) (fun c_70 => ?_)
        · skip
          refine x_iconst (pc := 78) dX1_noteSure_78 ?_
          refine x_iastF (c0) (pc := 79) dX1_noteSure_79 k_54 (hL 54 (by decide) (by decide)) (⟨by omega, by omega, by decide⟩) hF (fun hF => ?_)
          refine x_iinc (pc := 80) dX1_noteSure_80 rfl (by decide) rfl ?_
          refine x_goto (tgt := 9) (pc := 83) dX1_noteSure_83 (by decide) ?_
          first
          | (refine ih (k + 1) G _ _ (by omega) (fun c hc => ?_) (fun c h3 h4 => h2 c (by omega) h4) hQ hF
             by_cases e : c = c0
             · rw [e, hsc]; unfold zss; rw [if_pos c_29]; exact c_29
             · exact h1 c (by omega))
          | (obtain ⟨f1, f2⟩ := fin (zol m S I z mk u k) _ (by unfold zss; rw [if_neg c_29, if_pos (by omega)]) rfl
             exact ih (k + 1) _ _ _ (by omega) f1 f2 (hQ.up (by decide)) hF)
          | (obtain ⟨f1, f2⟩ := fin (-1) _ (by unfold zss; rw [if_neg c_29, if_neg (by omega)]) rfl
             exact ih (k + 1) _ _ _ (by omega) f1 f2 (hQ.up (by decide)) hF)
        · skip
          refine x_iload (pc := 73) dX1_noteSure_73 rfl ?_
          refine x_goto (tgt := 79) (pc := 75) dX1_noteSure_75 (by decide) ?_
          refine x_iastF (c0) (pc := 79) dX1_noteSure_79 k_54 (hL 54 (by decide) (by decide)) (⟨by omega, by omega, by decide⟩) hF (fun hF => ?_)
          refine x_iinc (pc := 80) dX1_noteSure_80 rfl (by decide) rfl ?_
          refine x_goto (tgt := 9) (pc := 83) dX1_noteSure_83 (by decide) ?_
          first
          | (refine ih (k + 1) G _ _ (by omega) (fun c hc => ?_) (fun c h3 h4 => h2 c (by omega) h4) hQ hF
             by_cases e : c = c0
             · rw [e, hsc]; unfold zss; rw [if_pos c_29]; exact c_29
             · exact h1 c (by omega))
          | (obtain ⟨f1, f2⟩ := fin (zol m S I z mk u k) _ (by unfold zss; rw [if_neg c_29, if_pos (by omega)]) rfl
             exact ih (k + 1) _ _ _ (by omega) f1 f2 (hQ.up (by decide)) hF)
          | (obtain ⟨f1, f2⟩ := fin (-1) _ (by unfold zss; rw [if_neg c_29, if_neg (by omega)]) rfl
             exact ih (k + 1) _ _ _ (by omega) f1 f2 (hQ.up (by decide)) hF)
    · skip
      refine x_goto (tgt := 80) (pc := 32) dX1_noteSure_32 (by decide) ?_
      refine x_iinc (pc := 80) dX1_noteSure_80 rfl (by decide) rfl ?_
      refine x_goto (tgt := 9) (pc := 83) dX1_noteSure_83 (by decide) ?_
      first
      | (refine ih (k + 1) G _ _ (by omega) (fun c hc => ?_) (fun c h3 h4 => h2 c (by omega) h4) hQ hF
         by_cases e : c = c0
         · rw [e, hsc]; unfold zss; rw [if_pos c_29]; exact c_29
         · exact h1 c (by omega))
      | (obtain ⟨f1, f2⟩ := fin (zol m S I z mk u k) _ (by unfold zss; rw [if_neg c_29, if_pos (by omega)]) rfl
         exact ih (k + 1) _ _ _ (by omega) f1 f2 (hQ.up (by decide)) hF)
      | (obtain ⟨f1, f2⟩ := fin (-1) _ (by unfold zss; rw [if_neg c_29, if_neg (by omega)]) rfl
         exact ih (k + 1) _ _ _ (by omega) f1 f2 (hQ.up (by decide)) hF)
theorem l_an_nsU {s : Nat → Int} {G0 : Nat → Nat → Int} (hL : x_SL L) (hz : cFL z G0) (h : cSw m S I z mk G0) (hs : ∀ c, c < 32 → -2 ≤ s c ∧ s c ≤ 2) :
    ∀ (r u : Nat) (G : Nat → Nat → Int) (o2 o3 o4 : Option (Nat × Int)), u + r = 4 → (∀ c, c < 8 * u → G 54 c = zss (s c) (zol m S I z mk (c / 8) (c % 8))) → (∀ c, 8 * u ≤ c → c < 32 → G 54 c = s c) → FR [54] G0 G → x_Fin xFL G →
    X mX1_noteSure 3 0 0 (qV L fun G' => (∀ c, c < 32 → G' 54 c = zss (s c) (zol m S I z mk (c / 8) (c % 8))) ∧ FR [54] G0 G' ∧ x_Fin xFL G') 2 [some (vR 46), some (vI u), o2, o3, o4] [] L G 0 0 := by
  intro r
  induction r with
  | zero =>
    intro u G o2 o3 o4 hu h1 h2 hQ hF
    have hu : u = 4 := by omega
    subst hu
    refine x_iloadn (pc := 2) dX1_noteSure_2 rfl ?_
    refine x_iconst (pc := 3) dX1_noteSure_3 ?_
    refine x_cge (tgt := 92) (pc := 4) dX1_noteSure_4 (by decide) (by omega) (fun c_4 => ?_) (fun c_4 => ?_)
    rotate_left
    · skip
      exact absurd c_4 (by decide)
    refine x_rV (pc := 92) dX1_noteSure_92 rfl ?_
    exact ⟨h1, hQ, hF⟩
  | succ r ih =>
    intro u G o2 o3 o4 hu h1 h2 hQ hF
    refine x_iloadn (pc := 2) dX1_noteSure_2 rfl ?_
    refine x_iconst (pc := 3) dX1_noteSure_3 ?_
    refine x_cge (tgt := 92) (pc := 4) dX1_noteSure_4 (by decide) (by omega) (fun c_4 => ?_) (fun c_4 => ?_)
    · skip
      exact absurd c_4 (by omega)
    refine x_iconst (pc := 7) dX1_noteSure_7 ?_
    refine x_istoren (pc := 8) dX1_noteSure_8 rfl (by decide) rfl ?_
    refine l_an_nsK hL hz h hs (show u < 4 by omega) (fun G1 o3 o4 b1 b2 b3 b4 => ?_) 8 0 G _ _ (by omega) (fun c hc => h1 c (by omega)) (fun c hc => h2 c (by omega)) hQ hF
    refine x_iinc (pc := 86) dX1_noteSure_86 rfl (by decide) rfl ?_
    refine x_goto (tgt := 2) (pc := 89) dX1_noteSure_89 (by decide) ?_
    exact ih (u + 1) G1 _ _ _ (by omega) b1 b2 b3 b4
theorem c_an_noteSure {s : Nat → Int} {G : Nat → Nat → Int} (hL : x_SL L) (hF : x_Fin xFL G) (hz : cFL z G) (h : cSw m S I z mk G) (hs : ∀ c, c < 32 → -2 ≤ s c ∧ s c ≤ 2) (h0 : ∀ c, c < 32 → G 54 c = s c) :
    CM yX1_noteSure mX1_noteSure 3 0 0 [vR 46] L G (qV L fun G' => (∀ c, c < 32 → G' 54 c = zss (s c) (zol m S I z mk (c / 8) (c % 8))) ∧ FR [54] G G' ∧ x_Fin xFL G') := by
  refine Ct.of_X (μ := mX1_noteSure) rfl rfl (by decide) (fun h => by cases h) (Nat.le_of_ble_eq_true rfl) rfl ?_
  refine x_iconst (pc := 0) dX1_noteSure_0 ?_
  refine x_istoren (pc := 1) dX1_noteSure_1 rfl (by decide) rfl ?_
  exact l_an_nsU hL hz h hs 4 0 G none none none (by omega) (fun c hc => absurd hc (Nat.not_lt_zero c)) (fun c _ hc => h0 c hc) FR.rf hF
/-! what the survey knows of all lengths ahead of c -/
noncomputable def zVc (m : Nat) (S : Nat → Nat) (I : Nat → Nat → Nat) (mk : Nat → Nat) (cell c : Nat) : Int := zol m S I (zcz c) mk (cell / 8) (cell % 8)
def zsr (W : Nat → Nat) (V : Nat → Int) : Nat → Int
  | 0 => -2
  | c + 1 => if 0 < W c then zss (zsr W V c) (V c) else zsr W V c
theorem zss_bd {s l : Int} (hs : -2 ≤ s ∧ s ≤ 2) (hl : -1 ≤ l ∧ l ≤ 2) : -2 ≤ zss s l ∧ zss s l ≤ 2 := by
  unfold zss
  split
  · decide
  · split
    · omega
    · decide
theorem zsr_bd {W : Nat → Nat} {V : Nat → Int} (hV : ∀ c, -1 ≤ V c ∧ V c ≤ 2) : ∀ c, -2 ≤ zsr W V c ∧ zsr W V c ≤ 2
  | 0 => by show -2 ≤ (-2 : Int) ∧ (-2 : Int) ≤ 2; decide
  | c + 1 => by
    rw [zsr]
    split
    · exact zss_bd (zsr_bd hV c) (hV c)
    · exact zsr_bd hV c
theorem zsr_skip {W : Nat → Nat} {V : Nat → Int} {a : Nat} : ∀ b, a ≤ b → (∀ c, a ≤ c → c < b → W c = 0) → zsr W V b = zsr W V a
  | 0, h, _ => by have : a = 0 := by omega
                  subst this; rfl
  | b + 1, h, hn => by
    by_cases e : a = b + 1
    · subst e; rfl
    · rw [zsr, if_neg (by have := hn b (by omega) (by omega); omega)]
      exact zsr_skip b (by omega) (fun c h1 h2 => hn c h1 (by omega))
def zSu (W : Nat → Nat) (V : Nat → Nat → Int) (c : Nat) (G : Nat → Nat → Int) : Prop := G 46 11 = zR W c ∧ G 46 12 = zT W c ∧ (∀ c', c' < c → 0 < W c' → G 167 (zR W c') = zc4 (zcz c') ∧ G 168 (zR W c') = zT W c') ∧ ∀ cell, cell < 32 → G 54 cell = zsr W (V cell) c
theorem zSu.skip {W : Nat → Nat} {V : Nat → Nat → Int} {a b : Nat} {G : Nat → Nat → Int} (h : zSu W V a G) (hab : a ≤ b) (hn : ∀ c, a ≤ c → c < b → W c = 0) : zSu W V b G := by
  obtain ⟨h1, h2, h3, h4⟩ := h
  have e := zT_skip b hab hn
  refine ⟨by rw [e.2]; exact h1, by rw [e.1]; exact h2, fun c' hc' hw => ?_, fun cell hc => by rw [zsr_skip b hab hn]; exact h4 cell hc⟩
  by_cases c : c' < a
  · exact h3 c' c hw
  · have := hn c' (by omega) hc'; omega
theorem zSu.FR {W : Nat → Nat} {V : Nat → Nat → Int} {c : Nat} {G G' : Nat → Nat → Int} {T : List Nat} (h : zSu W V c G) (hR : FR T G G') (h1 : 46 ∉ T) (h2 : 167 ∉ T) (h3 : 168 ∉ T) (h4 : 54 ∉ T) : zSu W V c G' := by
  obtain ⟨a, b, d, e⟩ := h
  exact ⟨by rw [hR _ h1]; exact a, by rw [hR _ h1]; exact b, fun c' hc' hw => by rw [hR _ h2, hR _ h3]; exact d c' hc' hw, fun cell hc => by rw [hR _ h4]; exact e cell hc⟩
def cRW (L : List Nat) (G : Nat → Nat → Int) : Prop := (167 ∈ L ∧ 168 ∈ L) ∧ G 46 9 = ((167 : Nat) : Int) ∧ G 46 10 = ((168 : Nat) : Int)
end XSU

