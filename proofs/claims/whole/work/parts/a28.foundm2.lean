/-! the reference: found -/
theorem zhd_ne {s : zSt} (h : zvS s) (e : zhd s.1 = zhd s.2) : zhd s.1 = -1 := by
  obtain ⟨A, B⟩ := s
  cases A with
  | nil => rfl
  | cons a A =>
    cases B with
    | nil => exact e
    | cons b B =>
      exfalso
      have e : ((a : Nat) : Int) = ((b : Nat) : Int) := e
      have h5 : zcp (a :: A) (b :: B) = 0 := h.2.2.2.2
      rw [zcp, if_pos (by omega)] at h5
      omega
theorem zpu_pi {s : zSt} {k : Nat} (h : zvS s) (hk : k < zqn (zhd s.1) (zhd s.2)) (c : zpi (zhd s.1) (zhd s.2) k ≠ -1) : zpu (zhd s.1) (zhd s.2) k ≠ zpi (zhd s.1) (zhd s.2) k := fun w => by
  have h3 := zpu_nn hk
  rcases zpi_key c with ⟨k1, k2⟩ | ⟨k1, k2⟩
  · rw [k1, k2] at w
    have := zhd_ne h w
    omega
  · rw [k1, k2] at w
    have := zhd_ne h w.symm
    omega
def zFoP (S : Nat → Nat) (I : Nat → Nat → Nat) (u : Nat) (k : Int) (e : Nat) (x : Int) : Prop := (zdn (zN (zsk (zs0 S I e)) 6000) = -1 ∧ x = -1) ∨ ∃ D m, zEd (zsk (zs0 S I e)) D m ∧ ((¬ zwk (zsk (zs0 S I e)) D m ∧ x = -6) ∨ (zwk (zsk (zs0 S I e)) D m ∧ x = if k = -1 then (((zww (zsk (zs0 S I e)) D m u).length : Nat) : Int) else if k < (((zww (zsk (zs0 S I e)) D m u).length : Nat) : Int) then (((zww (zsk (zs0 S I e)) D m u).getD k.toNat 0 : Nat) : Int) else -1))
theorem zFoP_fn {S : Nat → Nat} {I : Nat → Nat → Nat} {u : Nat} {k : Int} (e : Nat) (x y : Int) (hx : zFoP S I u k e x) (hy : zFoP S I u k e y) : x = y := by
  rcases hx with ⟨h1, h2⟩ | ⟨D, m, h1, h2⟩ <;> rcases hy with ⟨k1, k2⟩ | ⟨D', m', k1, k2⟩
  · omega
  · have := k1.1; omega
  · have := h1.1; omega
  · obtain ⟨rfl, rfl⟩ := zEd_fn h1 k1
    rcases h2 with ⟨h2, h3⟩ | ⟨h2, h3⟩ <;> rcases k2 with ⟨k2, k3⟩ | ⟨k2, k3⟩
    · omega
    · exact absurd k2 h2
    · exact absurd h2 k2
    · rw [h3, k3]
section XFO
variable {L : List Nat} {s0 : zSt}
abbrev z_foF : List Nat := [39, 40]
theorem l_mo_foE {D m u : Nat} {e0 k w4 : Int} {o6 : Option (Nat × Int)} {G0 G : Nat → Nat → Int} {P : Int → Prop} (hL : x_SL L) (hF : x_Fin xFL G) (hu : u < 4) (hk : -1 ≤ k ∧ k < 2147483648) (hw : mWd (zww s0 D m) G) (hQ : FM z_cS2 z_cF G0 G)
    (hP : P (if k = -1 then (((zww s0 D m u).length : Nat) : Int) else if k < (((zww s0 D m u).length : Nat) : Int) then (((zww s0 D m u).getD k.toNat 0 : Nat) : Int) else -1)) :
    X mX12_found 3 0 0 (pMm L G0 z_cS2 P) 153 [some (vR 127), some (vI e0), some (vI u), some (vI k), some (vI w4), some (vI (-1)), o6] [] L G 0 0 := by
  obtain ⟨w1, w2, w3⟩ := hw u hu
  refine x_iloadn (pc := 153) dX12_found_153 rfl ?_
  refine x_iconst (pc := 154) dX12_found_154 ?_
  refine x_cne (tgt := 167) (pc := 155) dX12_found_155 (by decide) (by omega) (fun c_155 => ?_) (fun c_155 => ?_)
  · skip
    refine x_iloadn (pc := 167) dX12_found_167 rfl ?_
    refine x_aloadn (pc := 168) dX12_found_168 rfl ?_
    refine x_getR (161) (pc := 169) dX12_found_169 fl_X12_111 k_127 (hL 127 (by decide) (by decide)) (f_127_45 hF) ?_
    refine x_iloadn (pc := 172) dX12_found_172 rfl ?_
    refine x_iald (u) (pc := 173) dX12_found_173 k_161 (hL 161 (by decide) (by decide)) (⟨by omega, by omega, by decide⟩) ?_
    rw [w1]
    refine x_cge (tgt := 192) (pc := 174) dX12_found_174 (by decide) (by omega) (fun c_174 => ?_) (fun c_174 => ?_)
    · skip
      refine x_iconst (pc := 192) dX12_found_192 ?_
      refine x_rI (pc := 193) dX12_found_193 rfl ?_
      refine ⟨?_, hQ, hF⟩
      first
      | (rw [if_pos (by omega)] at hP; exact hP)
      | (rw [if_neg (by omega), if_pos (by omega), hk', Int.toNat_natCast] at hP; exact hP)
      | (rw [if_neg (by omega), if_neg (by omega)] at hP; exact hP)
    · skip
      obtain ⟨k', hk'⟩ : ∃ j : Nat, k = ((j : Nat) : Int) := ⟨k.toNat, by omega⟩
      have hx := w3 k' (by omega)
      have hij : 301 * ((u : Nat) : Int) + k = ((301 * u + k' : Nat) : Int) := by omega
      refine x_aloadn (pc := 177) dX12_found_177 rfl ?_
      refine x_getR (160) (pc := 178) dX12_found_178 fl_X12_108 k_127 (hL 127 (by decide) (by decide)) (f_127_44 hF) ?_
      refine x_sipush (pc := 181) dX12_found_181 (by decide) ?_
      refine x_iloadn (pc := 184) dX12_found_184 rfl ?_
      refine x_imul (pc := 185) dX12_found_185 ?_
      refine x_iloadn (pc := 186) dX12_found_186 rfl ?_
      refine x_iadd (pc := 187) dX12_found_187 ?_
      rw [hij]
      refine x_iald (301 * u + k') (pc := 188) dX12_found_188 k_160 (hL 160 (by decide) (by decide)) (⟨by omega, by omega, by decide⟩) ?_
      rw [hx]
      refine x_goto (tgt := 193) (pc := 189) dX12_found_189 (by decide) ?_
      refine x_rI (pc := 193) dX12_found_193 rfl ?_
      refine ⟨?_, hQ, hF⟩
      first
      | (rw [if_pos (by omega)] at hP; exact hP)
      | (rw [if_neg (by omega), if_pos (by omega), hk', Int.toNat_natCast] at hP; exact hP)
      | (rw [if_neg (by omega), if_neg (by omega)] at hP; exact hP)
  · skip
    refine x_aloadn (pc := 158) dX12_found_158 rfl ?_
    refine x_getR (161) (pc := 159) dX12_found_159 fl_X12_111 k_127 (hL 127 (by decide) (by decide)) (f_127_45 hF) ?_
    refine x_iloadn (pc := 162) dX12_found_162 rfl ?_
    refine x_iald (u) (pc := 163) dX12_found_163 k_161 (hL 161 (by decide) (by decide)) (⟨by omega, by omega, by decide⟩) ?_
    rw [w1]
    refine x_goto (tgt := 193) (pc := 164) dX12_found_164 (by decide) ?_
    refine x_rI (pc := 193) dX12_found_193 rfl ?_
    refine ⟨?_, hQ, hF⟩
    first
    | (rw [if_pos (by omega)] at hP; exact hP)
    | (rw [if_neg (by omega), if_pos (by omega), hk', Int.toNat_natCast] at hP; exact hP)
    | (rw [if_neg (by omega), if_neg (by omega)] at hP; exact hP)
/-- an item or a word put ahead -/
theorem l_mo_foP {D m u uu t i : Nat} {P' : Nat} {e0 k w4 p : Int} {G0 G3 : Nat → Nat → Int} {P : Int → Prop} (hL : x_SL L) (hF : x_Fin xFL G3) (h0 : zvS s0) (hE : zEd s0 D m) (hu : u < 4) (hk : -1 ≤ k ∧ k < 2147483648) (hP6 : ¬ zwk s0 D m → P (-6))
    (ihx : ∀ (G : Nat → Nat → Int) (o6 : Option (Nat × Int)), t + 1 + (m - (t + 1)) = m → mGn (zN s0 6000) G → (∀ i, i < m → G 158 i = ((zcd (zcb s0) D (m - i) : Nat) : Int) ∧ G 159 i = ((zcb s0 (zcd (zcb s0) D (m - 1 - i)) % 4 : Nat) : Int)) → mWd (zws (zww s0 D t) (uu - 4) p) G → (∀ i, i ≤ t + 1 → ∀ u, u < 4 → (zww s0 D i u).length ≤ 300) → FM z_cS2 z_cF G0 G → x_Fin xFL G → X mX12_found 3 0 0 (pMm L G0 z_cS2 P) 84 [some (vR 127), some (vI e0), some (vI u), some (vI k), some (vI w4), some (vI (((m : Nat) : Int) - 1 - ((t + 1 : Nat) : Int))), o6] [] L G 0 0)
    (htm : t < m) (wbad : ¬ (∀ v, v < 4 → (zws (zww s0 D t) (uu - 4) p v).length ≤ 300) → ¬ zwk s0 D m) (wgo : (∀ v, v < 4 → (zws (zww s0 D t) (uu - 4) p v).length ≤ 300) → ∀ i, i ≤ t + 1 → ∀ u, u < 4 → (zww s0 D i u).length ≤ 300) (hp : p = ((P' : Nat) : Int)) (hP8 : P' < 8 ∧ P' ≠ 3) (hu4 : 4 ≤ uu) (hu8 : uu < 8) (hne : ((uu : Nat) : Int) ≠ p) (hg3 : mGn (zN s0 6000) G3) (hch3 : ∀ i, i < m → G3 158 i = ((zcd (zcb s0) D (m - i) : Nat) : Int) ∧ G3 159 i = ((zcb s0 (zcd (zcb s0) D (m - 1 - i)) % 4 : Nat) : Int)) (hw3 : mWd (zww s0 D t) G3) (hwk : ∀ i, i ≤ t → ∀ u, u < 4 → (zww s0 D i u).length ≤ 300) (hQ3 : FM z_cS2 z_cF G0 G3) (f2 : G3 127 40 = ((P' : Nat) : Int)) (hm1 : ((i : Nat) : Int) + -1 = ((m : Nat) : Int) - 1 - ((t + 1 : Nat) : Int)) :
    X mX12_found 3 0 0 (pMm L G0 z_cS2 P) 138 [some (vR 127), some (vI e0), some (vI u), some (vI k), some (vI w4), some (vI i), some (vI ((uu - 4 : Nat) : Int))] [vI ((uu - 4 : Nat) : Int), vR 127] L G3 0 0 := by
  subst hp
  refine x_cVI (pc := 138) dX12_found_138 lk_X12_283 (c_mo_putAheadOf (w := zww s0 D t) (u := uu - 4) (P := P') hL hF (by omega) hP8 (by omega) hw3 f2) k_127 ⟨by decide, rfl⟩ (hL 127 (by decide) (by decide)) (⟨by decide, by decide⟩) (Nat.le_of_ble_eq_true rfl) rfl ?_
  rintro x G4 ⟨hx, k4, hF⟩
  have hx01 : x = 0 ∨ x = 1 := hx.elim (fun w => Or.inr w.1) (fun w => Or.inl w.1)
  refine x_ine (tgt := 147) (pc := 141) dX12_found_141 (by decide) (by omega) (fun c_141 => ?_) (fun c_141 => ?_)
  · skip
    refine x_iinc (pc := 147) dX12_found_147 rfl (by decide) rfl ?_
    refine x_goto (tgt := 84) (pc := 150) dX12_found_150 (by decide) ?_
    rw [hm1]
    rcases hx with ⟨_, w2, w3⟩ | ⟨w1, _⟩
    · refine ihx G4 _ (by omega) (hg3.FM k4 (by decide) (by decide) (by decide)) (fun i hi => by rw [k4 158 _ (by decide) (fun w => absurd w (by decide)), k4 159 _ (by decide) (fun w => absurd w (by decide))]; exact hch3 i hi) w3 (wgo (fun v hv => ?_)) (hQ3.tr (k4.mono (by decide) (by decide))) hF
      rw [zws_P]
      split
      · exact w2
      · exact hwk t (Nat.le_refl _) v hv
    · omega
  · skip
    refine x_bipush (pc := 144) dX12_found_144 (by decide) ?_
    refine x_rI (pc := 146) dX12_found_146 rfl ?_
    refine ⟨hP6 (wbad (fun w => ?_)), hQ3.tr (k4.mono (by decide) (by decide)), hF⟩
    rcases hx with ⟨w1, _⟩ | ⟨_, w2⟩
    · omega
    · have := w (uu - 4) (by omega)
      rw [zws_P, if_pos rfl] at this
      omega
theorem l_mo_foI {D m u : Nat} {e0 k w4 : Int} {G0 : Nat → Nat → Int} {P : Int → Prop} (hL : x_SL L) (h0 : zvS s0) (hl : (zN s0 6000).length ≤ 1500) (hE : zEd s0 D m) (hu : u < 4) (hk : -1 ≤ k ∧ k < 2147483648)
    (hP6 : ¬ zwk s0 D m → P (-6)) (hP : zwk s0 D m → P (if k = -1 then (((zww s0 D m u).length : Nat) : Int) else if k < (((zww s0 D m u).length : Nat) : Int) then (((zww s0 D m u).getD k.toNat 0 : Nat) : Int) else -1)) :
    ∀ (r t : Nat) (G : Nat → Nat → Int) (o6 : Option (Nat × Int)), t + r = m → mGn (zN s0 6000) G → (∀ i, i < m → G 158 i = ((zcd (zcb s0) D (m - i) : Nat) : Int) ∧ G 159 i = ((zcb s0 (zcd (zcb s0) D (m - 1 - i)) % 4 : Nat) : Int)) → mWd (zww s0 D t) G → (∀ i, i ≤ t → ∀ u, u < 4 → (zww s0 D i u).length ≤ 300) → FM z_cS2 z_cF G0 G → x_Fin xFL G →
    X mX12_found 3 0 0 (pMm L G0 z_cS2 P) 84 [some (vR 127), some (vI e0), some (vI u), some (vI k), some (vI w4), some (vI (((m : Nat) : Int) - 1 - t)), o6] [] L G 0 0 := by
  obtain ⟨hB, hc, hm⟩ := hE.ch hl
  have hGr := zGr_N hl
  have hDn := hc.1
  intro r
  induction r with
  | zero =>
    intro t G o6 ht hg hch hw hwk hQ hF
    have ht : t = m := by omega
    subst ht
    rw [show ((t : Nat) : Int) - 1 - ((t : Nat) : Int) = -1 by omega]
    refine x_iload (pc := 84) dX12_found_84 rfl ?_
    refine x_ilt (tgt := 153) (pc := 86) dX12_found_86 (by decide) (by omega) (fun c_86 => ?_) (fun c_86 => ?_)
    rotate_left
    · skip
      exact absurd c_86 (by decide)
    exact l_mo_foE hL hF hu hk hw hQ (hP hwk)
  | succ r ih =>
    intro t G o6 ht hg hch hw hwk hQ hF
    have hlt := hc.lt hGr (t + 1) (by omega)
    have hlt2 := hc.lt hGr t (by omega)
    have hne := hc.2.2 t (by omega)
    obtain ⟨i, hi⟩ : ∃ i, i = m - 1 - t := ⟨_, rfl⟩
    have hii : ((m : Nat) : Int) - 1 - ((t : Nat) : Int) = ((i : Nat) : Int) := by omega
    obtain ⟨c1, c2⟩ := hch i (by omega)
    rw [show m - i = t + 1 by omega] at c1
    rw [show m - 1 - i = t by omega] at c2
    obtain ⟨s, b1, b2, b3, b4⟩ := zcb_at (s0 := s0) (show 1 ≤ zcd (zcb s0) D t by omega) hlt2
    have hnd : zcd (zcb s0) D (t + 1) = zcb s0 (zcd (zcb s0) D t) / 4 := rfl
    have hws : zww s0 D (t + 1) = zws (zww s0 D t) (zeu s0 (zcb s0 (zcd (zcb s0) D t)) - 4) (zep s0 (zcb s0 (zcd (zcb s0) D t))) := rfl
    rw [hnd] at c1 hlt
    have ihx := ih (t + 1)
    rw [hws] at ihx
    have wbad : ¬ (∀ v, v < 4 → (zww s0 D (t + 1) v).length ≤ 300) → ¬ zwk s0 D m := fun w q => w (fun v hv => q (t + 1) (by omega) v hv)
    rw [hws] at wbad
    have wgo : (∀ v, v < 4 → (zws (zww s0 D t) (zeu s0 (zcb s0 (zcd (zcb s0) D t)) - 4) (zep s0 (zcb s0 (zcd (zcb s0) D t))) v).length ≤ 300) → ∀ i, i ≤ t + 1 → ∀ u, u < 4 → (zww s0 D i u).length ≤ 300 := fun w i hi v hv => by
      by_cases c : i = t + 1
      · rw [c, hws]; exact w v hv
      · exact hwk i (by omega) v hv
    obtain ⟨e, he⟩ : ∃ e, e = zcb s0 (zcd (zcb s0) D t) := ⟨_, rfl⟩
    rw [← he] at c1 c2 b1 b2 b3 b4 hlt ihx wbad wgo
    have hv := zN_v h0 _ s (List.mem_of_getElem? b3)
    obtain ⟨v1, v2⟩ := hv.b8
    obtain ⟨uu, hu1, hu4, hu8⟩ := zpu_nat (k := e % 4) ⟨(zhd_bd v1).1, (zhd_bd v1).2.1⟩ ⟨(zhd_bd v2).1, (zhd_bd v2).2.1⟩ b2
    have hpn := zpi_nat (k := e % 4) (zhd_bd v1) (zhd_bd v2)
    have hne2 := fun w => zpu_pi hv b2 w
    obtain ⟨p, hp⟩ : ∃ p, p = zpi (zhd s.1) (zhd s.2) (e % 4) := ⟨_, rfl⟩
    have heu : zeu s0 e = uu := by unfold zeu; rw [b1]; simp only; rw [hu1, Int.toNat_natCast]
    have hep : zep s0 e = p := by unfold zep; rw [b1]; simp only; rw [hp]
    rw [heu, hep] at ihx wbad wgo
    rw [← hp] at hpn hne2
    rw [hu1] at hne2
    have hpb : -1 ≤ p ∧ p < 8 := by rcases hpn with w | ⟨P, w, w2⟩ <;> omega
    have hu4i : ((uu : Nat) : Int) - 4 = ((uu - 4 : Nat) : Int) := by omega
    have hm1 : ((i : Nat) : Int) + -1 = ((m : Nat) : Int) - 1 - ((t + 1 : Nat) : Int) := by omega
    rw [hii]
    refine x_iload (pc := 84) dX12_found_84 rfl ?_
    refine x_ilt (tgt := 153) (pc := 86) dX12_found_86 (by decide) (by omega) (fun c_86 => ?_) (fun c_86 => ?_)
    · skip
      exact absurd c_86 (by omega)
    refine x_aloadn (pc := 89) dX12_found_89 rfl ?_
    refine x_aloadn (pc := 90) dX12_found_90 rfl ?_
    refine x_getR (158) (pc := 91) dX12_found_91 fl_X12_102 k_127 (hL 127 (by decide) (by decide)) (f_127_42 hF) ?_
    refine x_iload (pc := 94) dX12_found_94 rfl ?_
    refine x_iald (i) (pc := 96) dX12_found_96 k_158 (hL 158 (by decide) (by decide)) (⟨by omega, by omega, by decide⟩) ?_
    rw [c1]
    refine x_aloadn (pc := 97) dX12_found_97 rfl ?_
    refine x_getR (159) (pc := 98) dX12_found_98 fl_X12_105 k_127 (hL 127 (by decide) (by decide)) (f_127_43 hF) ?_
    refine x_iload (pc := 101) dX12_found_101 rfl ?_
    refine x_iald (i) (pc := 103) dX12_found_103 k_159 (hL 159 (by decide) (by decide)) (⟨by omega, by omega, by decide⟩) ?_
    rw [c2]
    refine x_cVI (pc := 104) dX12_found_104 lk_X12_260 (c_mo_hasPutting hL hF hg b3 (by omega) hv (show e % 4 < 4 by omega)) k_127 ⟨by decide, rfl⟩ (hL 127 (by decide) (by decide)) (⟨by decide, by decide⟩) (Nat.le_of_ble_eq_true rfl) rfl ?_
    rintro x G3 ⟨hx, hput, k3, hF⟩
    obtain ⟨f1, f2⟩ := hput b2
    rw [hu1] at f1
    rw [← hp] at f2
    have hg3 := hg.FM k3 (by decide) (by decide) (by decide)
    have hw3 := hw.FM k3 (by decide) (by decide)
    have hQ3 := hQ.tr (k3.mono (S' := z_cS2) (F' := z_cF) (by decide) (by decide))
    have hch3 : ∀ i, i < m → G3 158 i = ((zcd (zcb s0) D (m - i) : Nat) : Int) ∧ G3 159 i = ((zcb s0 (zcd (zcb s0) D (m - 1 - i)) % 4 : Nat) : Int) := fun i hi => by rw [k3 158 _ (by decide) (fun w => absurd w (by decide)), k3 159 _ (by decide) (fun w => absurd w (by decide))]; exact hch i hi
    refine x_pop (pc := 107) dX12_found_107 (fun h => by cases h) ?_
    refine x_aloadn (pc := 108) dX12_found_108 rfl ?_
    refine x_getI (pc := 109) dX12_found_109 fl_X12_240 k_127 (hL 127 (by decide) (by decide)) ?_
    rw [f1]
    refine x_iconst (pc := 112) dX12_found_112 ?_
    refine x_isub (pc := 113) dX12_found_113 ?_
    rw [hu4i]
    refine x_istore (pc := 114) dX12_found_114 (by decide) rfl ?_
    refine x_aloadn (pc := 116) dX12_found_116 rfl ?_
    refine x_getI (pc := 117) dX12_found_117 fl_X12_237 k_127 (hL 127 (by decide) (by decide)) ?_
    rw [f2]
    refine x_iconst (pc := 120) dX12_found_120 ?_
    refine x_cne (tgt := 135) (pc := 121) dX12_found_121 (by decide) (by omega) (fun c_121 => ?_) (fun c_121 => ?_)
    · skip
      refine x_aloadn (pc := 135) dX12_found_135 rfl ?_
      refine x_iload (pc := 136) dX12_found_136 rfl ?_
      rcases hpn with w | ⟨P', w, wP⟩
      · exact absurd w c_121
      · exact l_mo_foP hL hF h0 hE hu hk hP6 (fun G o6 h => ihx G o6 (by omega)) (by omega) wbad wgo w wP hu4 hu8 (hne2 c_121) hg3 hch3 hw3 hwk hQ3 (by rw [f2, w]) hm1
    · skip
      refine x_aloadn (pc := 124) dX12_found_124 rfl ?_
      refine x_getR (161) (pc := 125) dX12_found_125 fl_X12_111 k_127 (hL 127 (by decide) (by decide)) (f_127_45 hF) ?_
      refine x_iload (pc := 128) dX12_found_128 rfl ?_
      refine x_iconst (pc := 130) dX12_found_130 ?_
      refine x_iastF (uu - 4) (pc := 131) dX12_found_131 k_161 (hL 161 (by decide) (by decide)) (⟨by omega, by omega, by decide⟩) hF (fun hF => ?_)
      refine x_goto (tgt := 147) (pc := 132) dX12_found_132 (by decide) ?_
      have hpm : p = -1 := by omega
      have q : FM [161] [] G3 (x_up G3 161 (uu - 4) 0) := FM.rf.upA (by decide)
      refine x_iinc (pc := 147) dX12_found_147 rfl (by decide) rfl ?_
      refine x_goto (tgt := 84) (pc := 150) dX12_found_150 (by decide) ?_
      rw [hm1]
      rw [hpm] at ihx wgo
      have hz : ∀ v, zws (zww s0 D t) (uu - 4) (-1) v = if v = uu - 4 then [] else zww s0 D t v := fun v => by unfold zws; rw [if_pos rfl]
      refine ihx _ _ (by omega) (hg3.FM q (by decide) (by decide) (by decide)) (fun i hi => by rw [x_up_ne (by decide), x_up_ne (by decide)]; exact hch3 i hi) (fun v hv => ?_) (wgo (fun v hv => ?_)) (hQ3.tr (q.mono (by decide) (by decide))) hF
      · rw [hz]
        by_cases c : v = uu - 4
        · rw [if_pos c, c, x_up_s]; exact ⟨rfl, Nat.zero_le _, fun j hj => absurd hj (Nat.not_lt_zero j)⟩
        · rw [if_neg c, x_up_k c, x_up_ne (by decide)]; exact hw3 v hv
      · rw [hz]
        split
        · exact Nat.zero_le _
        · exact hwk t (Nat.le_refl _) v hv
end XFO
section XFP
variable {L : List Nat} {m : Nat} {S : Nat → Nat} {I : Nat → Nat → Nat}
theorem l_mo_foZ {Q : x_Q} {e0 u k w4 : Int} {o6 : Option (Nat × Int)} {G0 : Nat → Nat → Int} (hL : x_SL L)
    (cont : ∀ G : Nat → Nat → Int, (∀ v, v < 4 → G 161 v = 0) → FM [161] [] G0 G → x_Fin xFL G → X mX12_found 3 0 0 Q 76 [some (vR 127), some (vI e0), some (vI u), some (vI k), some (vI w4), some (vI 4), o6] [] L G 0 0) :
    ∀ (r i : Nat) (G : Nat → Nat → Int), i + r = 4 → (∀ v, v < i → G 161 v = 0) → FM [161] [] G0 G → x_Fin xFL G → X mX12_found 3 0 0 Q 56 [some (vR 127), some (vI e0), some (vI u), some (vI k), some (vI w4), some (vI i), o6] [] L G 0 0 := by
  intro r
  induction r with
  | zero =>
    intro i G hi hz hQ hF
    have hi : i = 4 := by omega
    subst hi
    refine x_iload (pc := 56) dX12_found_56 rfl ?_
    refine x_iconst (pc := 58) dX12_found_58 ?_
    refine x_cge (tgt := 76) (pc := 59) dX12_found_59 (by decide) (by omega) (fun c_59 => ?_) (fun c_59 => ?_)
    rotate_left
    · skip
      exact absurd c_59 (by decide)
    exact cont G hz hQ hF
  | succ r ih =>
    intro i G hi hz hQ hF
    refine x_iload (pc := 56) dX12_found_56 rfl ?_
    refine x_iconst (pc := 58) dX12_found_58 ?_
    refine x_cge (tgt := 76) (pc := 59) dX12_found_59 (by decide) (by omega) (fun c_59 => ?_) (fun c_59 => ?_)
    · skip
      exact absurd c_59 (by omega)
    refine x_aloadn (pc := 62) dX12_found_62 rfl ?_
    refine x_getR (161) (pc := 63) dX12_found_63 fl_X12_111 k_127 (hL 127 (by decide) (by decide)) (f_127_45 hF) ?_
    refine x_iload (pc := 66) dX12_found_66 rfl ?_
    refine x_iconst (pc := 68) dX12_found_68 ?_
    refine x_iastF (i) (pc := 69) dX12_found_69 k_161 (hL 161 (by decide) (by decide)) (⟨by omega, by omega, by decide⟩) hF (fun hF => ?_)
    refine x_iinc (pc := 70) dX12_found_70 rfl (by decide) rfl ?_
    refine x_goto (tgt := 56) (pc := 73) dX12_found_73 (by decide) ?_
    refine ih (i + 1) _ (by omega) (fun v hv => ?_) (hQ.upA (by decide)) hF
    by_cases c : v = i
    · rw [c, x_up_s]
    · rw [x_up_k c]; exact hz v (by omega)
theorem l_mo_foM {s0 : zSt} {D mm u : Nat} {e0 k w4 : Int} {o6 : Option (Nat × Int)} {G0 G : Nat → Nat → Int} {P : Int → Prop} (hL : x_SL L) (hF : x_Fin xFL G) (h0 : zvS s0) (hl : (zN s0 6000).length ≤ 1500) (hg : mGf s0 G) (hE : zEd s0 D mm) (hu : u < 4) (hk : -1 ≤ k ∧ k < 2147483648) (hQ : FM z_cS2 z_cF G0 G)
    (hP6 : ¬ zwk s0 D mm → P (-6)) (hP : zwk s0 D mm → P (if k = -1 then (((zww s0 D mm u).length : Nat) : Int) else if k < (((zww s0 D mm u).length : Nat) : Int) then (((zww s0 D mm u).getD k.toNat 0 : Nat) : Int) else -1)) :
    X mX12_found 3 0 0 (pMm L G0 z_cS2 P) 53 [some (vR 127), some (vI e0), some (vI u), some (vI k), some (vI w4), none, o6] [] L G 0 0 := by
  obtain ⟨hB, hc, hm⟩ := hE.ch hl
  have hDn := hc.1
  have mid : ∀ G1 : Nat → Nat → Int, (∀ v, v < 4 → G1 161 v = 0) → FM [161] [] G G1 → x_Fin xFL G1 → X mX12_found 3 0 0 (pMm L G0 z_cS2 P) 76 [some (vR 127), some (vI e0), some (vI u), some (vI k), some (vI w4), some (vI 4), o6] [] L G1 0 0 := by
    intro G1 k1 k2 hF
    have hg1 : mGf s0 G1 := by
      obtain ⟨g1, g2, g3⟩ := hg
      refine ⟨g1.FM k2 (by decide) (by decide) (by decide) (by decide) (by decide) (by decide), fun e he => ?_, fun k hk => ?_⟩
      · rw [k2 151 _ (by decide) (fun w => absurd w (by decide)), k2 152 _ (by decide) (fun w => absurd w (by decide))]; exact g2 e he
      · rw [k2 153 _ (by decide) (fun w => absurd w (by decide))]; exact g3 k hk
    refine x_aloadn (pc := 76) dX12_found_76 rfl ?_
    refine x_cVI (pc := 77) dX12_found_77 lk_X12_280 (c_mo_layChain hL hF hl hg1 hE) k_127 ⟨by decide, rfl⟩ (hL 127 (by decide) (by decide)) (⟨by decide, by decide⟩) (Nat.le_of_ble_eq_true rfl) rfl ?_
    rintro x G2 ⟨rfl, d1, d2, hF⟩
    refine x_iconst (pc := 80) dX12_found_80 ?_
    refine x_isub (pc := 81) dX12_found_81 ?_
    refine x_istore (pc := 82) dX12_found_82 (by decide) rfl ?_
    rw [show ((mm : Nat) : Int) - 1 = ((mm : Nat) : Int) - 1 - ((0 : Nat) : Int) by omega]
    refine l_mo_foI (G0 := G0) hL h0 hl hE hu hk hP6 hP mm 0 G2 _ (Nat.zero_add _) (hg1.1.2.1.FM d2 (by decide) (by decide) (by decide)) d1 (fun v hv => ?_) (fun i hi v hv => ?_) ((hQ.tr (k2.mono (by decide) (by decide))).tr (d2.mono (by decide) (by decide))) hF
    · rw [d2 _ _ (by decide) (fun w => absurd w (by decide)), k1 v hv]
      exact ⟨rfl, Nat.zero_le _, fun j hj => absurd hj (Nat.not_lt_zero j)⟩
    · rw [show i = 0 by omega]; exact Nat.zero_le _
  refine x_iconst (pc := 53) dX12_found_53 ?_
  refine x_istore (pc := 54) dX12_found_54 (by decide) rfl ?_
  exact l_mo_foZ hL mid 4 0 G (Nat.zero_add _) (fun v hv => absurd hv (Nat.not_lt_zero v)) FM.rf hF
theorem c_mo_found {e0 u k : Int} {G : Nat → Nat → Int} (hL : x_SL L) (hF : x_Fin xFL G) (hE : mEq m S I G) (he0 : -2147483648 ≤ e0 ∧ e0 < 2147483648) (hu0 : -2147483648 ≤ u ∧ u < 2147483648) (hk0 : -2147483648 ≤ k ∧ k < 2147483648) :
    CM yX12_found mX12_found 3 0 0 [vR 127, vI e0, vI u, vI k] L G (pMm L G z_cS2 (fun x => (¬ ((0 ≤ e0 ∧ e0 < m) ∧ 0 ≤ u ∧ u < 4) ∧ x = -2) ∨ (((0 ≤ e0 ∧ e0 < m) ∧ 0 ≤ u ∧ u < 4) ∧ ((k < -1 ∧ x = -3) ∨ (-1 ≤ k ∧ zCP m S I (zFoP S I u.toNat k) e0 x))))) := by
  have hm4 := hE.2.1
  refine Ct.of_X (μ := mX12_found) rfl rfl (by decide) (fun h => by cases h) (Nat.le_of_ble_eq_true rfl) rfl ?_
  refine x_aloadn (pc := 0) dX12_found_0 rfl ?_
  refine x_iloadn (pc := 1) dX12_found_1 rfl ?_
  refine x_cVI (pc := 2) dX12_found_2 lk_X12_157 (c_mo_isEquation hL hF hE he0) k_127 ⟨by decide, rfl⟩ (hL 127 (by decide) (by decide)) (⟨by decide, by decide⟩) (Nat.le_of_ble_eq_true rfl) rfl ?_
  rintro x G' ⟨rfl, h_G⟩
  obtain rfl := h_G.symm
  refine x_ieq (tgt := 15) (pc := 5) dX12_found_5 (by decide) (by split <;> omega) (fun c_5 => ?_) (fun c_5 => ?_)
  · skip
    refine x_bipush (pc := 15) dX12_found_15 (by decide) ?_
    refine x_rI (pc := 17) dX12_found_17 rfl ?_
    first
    | exact ⟨Or.inl ⟨fun w => by split at c_5 <;> omega, rfl⟩, FM.rf, hF⟩
    | exact ⟨Or.inl ⟨fun w => by split at c_12 <;> omega, rfl⟩, FM.rf, hF⟩
  · skip
    refine x_iloadn (pc := 8) dX12_found_8 rfl ?_
    refine x_cSI (pc := 9) dX12_found_9 lk_X12_161 (c_mo_isName hu0) (⟨by decide, by decide⟩) (Nat.le_of_ble_eq_true rfl) rfl ?_
    rintro x G' ⟨rfl, h_G⟩
    obtain rfl := h_G.symm
    refine x_ine (tgt := 18) (pc := 12) dX12_found_12 (by decide) (by split <;> omega) (fun c_12 => ?_) (fun c_12 => ?_)
    · skip
      have hem : (0 ≤ e0 ∧ e0 < m) ∧ 0 ≤ u ∧ u < 4 := ⟨by split at c_5 <;> omega, by split at c_12 <;> omega⟩
      refine x_iloadn (pc := 18) dX12_found_18 rfl ?_
      refine x_iconst (pc := 19) dX12_found_19 ?_
      refine x_cge (tgt := 26) (pc := 20) dX12_found_20 (by decide) (by omega) (fun c_20 => ?_) (fun c_20 => ?_)
      · skip
        obtain ⟨u, rfl⟩ : ∃ j : Nat, u = j := ⟨u.toNat, by omega⟩
        refine x_aloadn (pc := 26) dX12_found_26 rfl ?_
        refine x_iloadn (pc := 27) dX12_found_27 rfl ?_
        refine x_cVI (pc := 28) dX12_found_28 lk_X12_274 (c_mo_chase hL hF hE he0) k_127 ⟨by decide, rfl⟩ (hL 127 (by decide) (by decide)) (⟨by decide, by decide⟩) (Nat.le_of_ble_eq_true rfl) rfl ?_
        rintro x G2 ⟨hx, hQ, hF⟩
        have hxb := zChP_bd hx
        have hno := fun (_ : Unit) w => zChP_no (P := zFoP S I u k) hx w
        have hok := fun (_ : Unit) w => zChP_ok hx w
        refine x_istore (pc := 31) dX12_found_31 (by decide) rfl ?_
        refine x_iload (pc := 33) dX12_found_33 rfl ?_
        refine x_ieq (tgt := 41) (pc := 35) dX12_found_35 (by decide) (by omega) (fun c_35 => ?_) (fun c_35 => ?_)
        · skip
          obtain ⟨e, h1, h2, h3, h4, h5, h6⟩ := hok () (by omega)
          have h0 := zN_pos (s0 := zsk (zs0 S I e)) 6000
          have hd0 := h5.2.2 0 (by omega)
          have hdi := fun (_ : Unit) => zdi_0 h4 hd0.1
          have hdb := hd0.2
          have wrap : ∀ y, zFoP S I u k e y → (¬ ((0 ≤ e0 ∧ e0 < m) ∧ 0 ≤ ((u : Nat) : Int) ∧ ((u : Nat) : Int) < 4) ∧ y = -2) ∨ (((0 ≤ e0 ∧ e0 < m) ∧ 0 ≤ ((u : Nat) : Int) ∧ ((u : Nat) : Int) < 4) ∧ ((k < -1 ∧ y = -3) ∨ (-1 ≤ k ∧ zCP m S I (zFoP S I ((u : Nat) : Int).toNat k) e0 y))) := fun y hy => Or.inr ⟨hem, Or.inr ⟨by omega, by rw [Int.toNat_natCast]; exact Or.inr ⟨e, h1, h2, Or.inr ⟨h3, Or.inr ⟨h4, hy⟩⟩⟩⟩⟩
          refine x_aloadn (pc := 41) dX12_found_41 rfl ?_
          refine x_getR (153) (pc := 42) dX12_found_42 fl_X12_87 k_127 (hL 127 (by decide) (by decide)) (f_127_31 hF) ?_
          refine x_iconst (pc := 45) dX12_found_45 ?_
          refine x_iald 0 (pc := 46) dX12_found_46 k_153 (hL 153 (by decide) (by decide)) (by decide) ?_
          refine x_iconst (pc := 47) dX12_found_47 ?_
          refine x_cne (tgt := 53) (pc := 48) dX12_found_48 (by decide) (by omega) (fun c_48 => ?_) (fun c_48 => ?_)
          · skip
            have hs1 := hE.2.2 (2 * e) (by omega)
            have hs2 := hE.2.2 (2 * e + 1) (by omega)
            rcases hdi () with ⟨w, _⟩ | ⟨D, mm, hEd, w2⟩
            · exact absurd w c_48
            · exact l_mo_foM hL hF (zs0_v ⟨hs1.2.1, fun j hj => (hs1.2.2 j hj).2⟩ ⟨hs2.2.1, fun j hj => (hs2.2.2 j hj).2⟩ h3) h4 h5 hEd (by omega) ⟨by omega, hk0.2⟩ (hQ.mono (by decide) (by decide)) (fun w => wrap _ (Or.inr ⟨D, mm, hEd, Or.inl ⟨w, rfl⟩⟩)) (fun w => wrap _ (Or.inr ⟨D, mm, hEd, Or.inr ⟨w, rfl⟩⟩))
          · skip
            refine x_iconst (pc := 51) dX12_found_51 ?_
            refine x_rI (pc := 52) dX12_found_52 rfl ?_
            refine ⟨wrap (-1) ?_, hQ.mono (by decide) (by decide), hF⟩
            rcases hdi () with ⟨_, w⟩ | ⟨D, mm, w, w2⟩
            · exact Or.inl ⟨w, rfl⟩
            · exact absurd c_48 (by omega)
        · skip
          refine x_iload (pc := 38) dX12_found_38 rfl ?_
          refine x_rI (pc := 40) dX12_found_40 rfl ?_
          exact ⟨Or.inr ⟨hem, Or.inr ⟨by omega, by rw [Int.toNat_natCast]; exact hno () (by omega)⟩⟩, hQ.mono (by decide) (by decide), hF⟩
      · skip
        refine x_bipush (pc := 23) dX12_found_23 (by decide) ?_
        refine x_rI (pc := 25) dX12_found_25 rfl ?_
        exact ⟨Or.inr ⟨hem, Or.inl ⟨by omega, rfl⟩⟩, FM.rf, hF⟩
    · skip
      refine x_bipush (pc := 15) dX12_found_15 (by decide) ?_
      refine x_rI (pc := 17) dX12_found_17 rfl ?_
      first
      | exact ⟨Or.inl ⟨fun w => by split at c_5 <;> omega, rfl⟩, FM.rf, hF⟩
      | exact ⟨Or.inl ⟨fun w => by split at c_12 <;> omega, rfl⟩, FM.rf, hF⟩
end XFP

