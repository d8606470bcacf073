/-! the class: the words of a chain -/
section XBW
variable {L : List Nat} {s0 : zSt} {D m : Nat}
abbrev pBwc (L : List Nat) (G0 : Nat → Nat → Int) (s0 : zSt) (D m : Nat) : x_Q := qI L fun x G' => ((x = 1 ∧ zwk s0 D m ∧ cCw (zww s0 D m) G') ∨ (x = 0 ∧ ¬ zwk s0 D m)) ∧ FR z_cwS G0 G' ∧ x_Fin xFL G'
theorem zcw_no {q : Nat} (hq : 169 ≤ q) : q ∉ z_cwS := fun w => by
  have hall : ∀ x, x ∈ z_cwS → x < 169 := by decide
  have := hall q w
  omega
theorem l_ch_bw {e q : Nat} {G0 : Nat → Nat → Int} (hL : x_SL L) (h0 : zvS s0) (hl : (zN s0 6000).length ≤ 1500) (hE : zEd s0 D m) (he : e < 4) (hq : 169 ≤ q) (hkq : xK q = (13, 1500)) (hqL : q ∈ L) (hmp : G0 70 e = ((m : Nat) : Int)) (hst : G0 78 e = ((q : Nat) : Int)) (hsv : ∀ i, i < m → G0 q i = ((zenc s0 (zcb s0 (zcd (zcb s0) D i)) : Nat) : Int)) :
    ∀ (r t : Nat) (G : Nat → Nat → Int) (o3 o4 : Option (Nat × Int)), t + r = m → cCw (zww s0 D t) G → (∀ i, i ≤ t → ∀ u, u < 4 → (zww s0 D i u).length ≤ 300) → FR z_cwS G0 G → x_Fin xFL G →
    X mX2_buildWords 3 0 0 (pBwc L G0 s0 D m) 10 [some (vR 66), some (vI e), some (vI t), o3, o4] [] L G 0 0 := by
  obtain ⟨hB, hc, hm⟩ := hE.ch hl
  have hGr := zGr_N hl
  have hDn := hc.1
  intro r
  induction r with
  | zero =>
    intro t G o3 o4 ht hw hwk hQ hF
    have ht : t = m := by omega
    subst ht
    have hmp' : G 70 e = ((t : Nat) : Int) := by rw [hQ _ (by decide)]; exact hmp
    refine x_iloadn (pc := 10) dX2_buildWords_10 rfl ?_
    refine x_aloadn (pc := 11) dX2_buildWords_11 rfl ?_
    refine x_getR (70) (pc := 12) dX2_buildWords_12 fl_X2_22 k_66 (hL 66 (by decide) (by decide)) (f_66_3 hF) ?_
    refine x_iloadn (pc := 15) dX2_buildWords_15 rfl ?_
    refine x_iald (e) (pc := 16) dX2_buildWords_16 k_70 (hL 70 (by decide) (by decide)) (⟨by omega, by omega, by decide⟩) ?_
    rw [hmp']
    refine x_cge (tgt := 126) (pc := 17) dX2_buildWords_17 (by decide) (by omega) (fun c_17 => ?_) (fun c_17 => ?_)
    rotate_left
    · skip
      exact absurd c_17 (by omega)
    refine x_iconst (pc := 126) dX2_buildWords_126 ?_
    refine x_rZ (pc := 127) dX2_buildWords_127 rfl (by omega) ?_
    exact ⟨Or.inl ⟨rfl, hwk, hw⟩, hQ, hF⟩
  | succ r ih =>
    intro t G o3 o4 ht hw hwk hQ hF
    have hmp' : G 70 e = ((m : Nat) : Int) := by rw [hQ _ (by decide)]; exact hmp
    have hst' : G 78 e = ((q : Nat) : Int) := by rw [hQ _ (by decide)]; exact hst
    have hz : G q t = ((zenc s0 (zcb s0 (zcd (zcb s0) D t)) : Nat) : Int) := by rw [hQ _ (zcw_no hq)]; exact hsv t (by omega)
    have hlt2 := hc.lt hGr t (by omega)
    have hne := hc.2.2 t (by omega)
    obtain ⟨s, b1, b2, b3, b4⟩ := zcb_at (s0 := s0) (show 1 ≤ zcd (zcb s0) D t by omega) hlt2
    have hws : zww s0 D (t + 1) = zws (zww s0 D t) (zeu s0 (zcb s0 (zcd (zcb s0) D t)) - 4) (zep s0 (zcb s0 (zcd (zcb s0) D t))) := rfl
    have ihx := ih (t + 1)
    rw [hws] at ihx
    have wbad : ¬ (∀ v, v < 4 → (zww s0 D (t + 1) v).length ≤ 300) → ¬ zwk s0 D m := fun w q => w (fun v hv => q (t + 1) (by omega) v hv)
    rw [hws] at wbad
    have wgo : (∀ v, v < 4 → (zws (zww s0 D t) (zeu s0 (zcb s0 (zcd (zcb s0) D t)) - 4) (zep s0 (zcb s0 (zcd (zcb s0) D t))) v).length ≤ 300) → ∀ i, i ≤ t + 1 → ∀ u, u < 4 → (zww s0 D i u).length ≤ 300 := fun w i hi v hv => by
      by_cases c : i = t + 1
      · rw [c, hws]; exact w v hv
      · exact hwk i (by omega) v hv
    obtain ⟨e1, he1⟩ : ∃ e, e = zcb s0 (zcd (zcb s0) D t) := ⟨_, rfl⟩
    rw [← he1] at hz b1 b2 b3 b4 ihx wbad wgo
    have hv := zN_v h0 _ s (List.mem_of_getElem? b3)
    obtain ⟨v1, v2⟩ := hv.b8
    obtain ⟨uu, hu1, hu4, hu8⟩ := zpu_nat (k := e1 % 4) ⟨(zhd_bd v1).1, (zhd_bd v1).2.1⟩ ⟨(zhd_bd v2).1, (zhd_bd v2).2.1⟩ b2
    have hpn := zpi_nat (k := e1 % 4) (zhd_bd v1) (zhd_bd v2)
    have hne2 := fun (_ : Unit) w => zpu_pi hv b2 w
    obtain ⟨p, hp⟩ : ∃ p, p = zpi (zhd s.1) (zhd s.2) (e1 % 4) := ⟨_, rfl⟩
    have heu : zeu s0 e1 = uu := by unfold zeu; rw [b1]; simp only; rw [hu1, Int.toNat_natCast]
    have hep : zep s0 e1 = p := by unfold zep; rw [b1]; simp only; rw [hp]
    rw [heu, hep] at ihx wbad wgo
    rw [← hp] at hpn hne2
    rw [hu1] at hne2
    have hpb : -1 ≤ p ∧ p < 8 := by rcases hpn with w | ⟨P, w, w2⟩ <;> omega
    obtain ⟨P1, hP1⟩ : ∃ P1 : Nat, p + 1 = ((P1 : Nat) : Int) := ⟨(p + 1).toNat, by omega⟩
    have henc : zenc s0 e1 = e1 % 4 + 4 * uu + 32 * P1 := by
      unfold zenc
      rw [heu, hep, hP1, Int.toNat_natCast]
    rw [henc] at hz
    have hd1 : ((e1 % 4 + 4 * uu + 32 * P1 : Nat) : Int) / 2 ^ 2 % 8 = ((uu : Nat) : Int) := by omega
    have hd2 : ((e1 % 4 + 4 * uu + 32 * P1 : Nat) : Int) / 2 ^ 5 - 1 = p := by omega
    have hu5 : ((uu : Nat) : Int) % 4 = ((uu - 4 : Nat) : Int) := by omega
    have hu : uu - 4 < 4 := by omega
    have goOn : ∀ (G' : Nat → Nat → Int), (zws (zww s0 D t) (uu - 4) p (uu - 4)).length = (zws (zww s0 D t) (uu - 4) p (uu - 4)).length → G' 77 (uu - 4) = (((zws (zww s0 D t) (uu - 4) p (uu - 4)).length : Nat) : Int) → ((zws (zww s0 D t) (uu - 4) p (uu - 4)).length ≤ 300 → cCw (zws (zww s0 D t) (uu - 4) p) G') → (zws (zww s0 D t) (uu - 4) p (uu - 4)).length ≤ 1000 → FR z_cwS G0 G' → x_Fin xFL G' → X mX2_buildWords 3 0 0 (pBwc L G0 s0 D m) 106 [some (vR 66), some (vI e), some (vI t), some (vI ((uu - 4 : Nat) : Int)), some (vI p)] [] L G' 0 0 := by
      intro G' _ k1 k2 k3 k4 hF
      have hsame : ∀ v, v ≠ uu - 4 → zws (zww s0 D t) (uu - 4) p v = zww s0 D t v := fun v hv => by unfold zws; rw [if_neg hv]
      obtain ⟨ln, hln⟩ : ∃ ln, ln = (zws (zww s0 D t) (uu - 4) p (uu - 4)).length := ⟨_, rfl⟩
      rw [← hln] at k1 k2 k3
      refine x_aloadn (pc := 106) dX2_buildWords_106 rfl ?_
      refine x_getR (77) (pc := 107) dX2_buildWords_107 fl_X2_33 k_66 (hL 66 (by decide) (by decide)) (f_66_6 hF) ?_
      refine x_iloadn (pc := 110) dX2_buildWords_110 rfl ?_
      refine x_iald (uu - 4) (pc := 111) dX2_buildWords_111 k_77 (hL 77 (by decide) (by decide)) (⟨by omega, by omega, by decide⟩) ?_
      rw [k1]
      refine x_sipush (pc := 112) dX2_buildWords_112 (by decide) ?_
      refine x_cle (tgt := 120) (pc := 115) dX2_buildWords_115 (by decide) (by omega) (fun c_115 => ?_) (fun c_115 => ?_)
      · skip
        refine x_iinc (pc := 120) dX2_buildWords_120 rfl (by decide) rfl ?_
        refine x_goto (tgt := 10) (pc := 123) dX2_buildWords_123 (by decide) ?_
        refine ihx _ _ _ (by omega) (k2 (by omega)) (wgo (fun v hv => ?_)) k4 hF
        by_cases c : v = uu - 4
        · rw [c]; omega
        · rw [hsame v c]; exact hwk t (Nat.le_refl _) v hv
      · skip
        refine x_iconst (pc := 118) dX2_buildWords_118 ?_
        refine x_rZ (pc := 119) dX2_buildWords_119 rfl (by omega) ?_
        exact ⟨Or.inr ⟨rfl, wbad (fun w => by have := w (uu - 4) hu; omega)⟩, k4, hF⟩
    have hw300 : ∀ v, v < 4 → (zww s0 D t v).length ≤ 300 := fun v hv => hwk t (Nat.le_refl _) v hv
    rcases hpn with hpm | ⟨P, hpP, hP8, hP3⟩
    · have hz0 : ∀ v, zws (zww s0 D t) (uu - 4) p v = if v = uu - 4 then [] else zww s0 D t v := fun v => by rw [hpm]; unfold zws; rw [if_pos rfl]
      have hz1 : (zws (zww s0 D t) (uu - 4) p (uu - 4)).length = 0 := by rw [hz0, if_pos rfl]; rfl
      refine x_iloadn (pc := 10) dX2_buildWords_10 rfl ?_
      refine x_aloadn (pc := 11) dX2_buildWords_11 rfl ?_
      refine x_getR (70) (pc := 12) dX2_buildWords_12 fl_X2_22 k_66 (hL 66 (by decide) (by decide)) (f_66_3 hF) ?_
      refine x_iloadn (pc := 15) dX2_buildWords_15 rfl ?_
      refine x_iald (e) (pc := 16) dX2_buildWords_16 k_70 (hL 70 (by decide) (by decide)) (⟨by omega, by omega, by decide⟩) ?_
      rw [hmp']
      refine x_cge (tgt := 126) (pc := 17) dX2_buildWords_17 (by decide) (by omega) (fun c_17 => ?_) (fun c_17 => ?_)
      · skip
        exact absurd c_17 (by omega)
      refine x_iloadn (pc := 20) dX2_buildWords_20 rfl ?_
      refine x_aloadn (pc := 21) dX2_buildWords_21 rfl ?_
      refine x_getR (78) (pc := 22) dX2_buildWords_22 fl_X2_36 k_66 (hL 66 (by decide) (by decide)) (f_66_7 hF) ?_
      refine x_iloadn (pc := 25) dX2_buildWords_25 rfl ?_
      refine x_aald (q) (e) (pc := 26) dX2_buildWords_26 k_78 (by decide) (hL 78 (by decide) (by decide)) (⟨by omega, by omega, by decide⟩) (hst') ?_
      refine x_alen (pc := 27) dX2_buildWords_27 hkq (by decide) hqL ?_
      refine x_cge (tgt := 126) (pc := 28) dX2_buildWords_28 (by decide) (by omega) (fun c_28 => ?_) (fun c_28 => ?_)
      · skip
        exact absurd c_28 (by omega)
      refine x_aloadn (pc := 31) dX2_buildWords_31 rfl ?_
      refine x_getR (78) (pc := 32) dX2_buildWords_32 fl_X2_36 k_66 (hL 66 (by decide) (by decide)) (f_66_7 hF) ?_
      refine x_iloadn (pc := 35) dX2_buildWords_35 rfl ?_
      refine x_aald (q) (e) (pc := 36) dX2_buildWords_36 k_78 (by decide) (hL 78 (by decide) (by decide)) (⟨by omega, by omega, by decide⟩) (hst') ?_
      refine x_iloadn (pc := 37) dX2_buildWords_37 rfl ?_
      refine x_iald (t) (pc := 38) dX2_buildWords_38 hkq hqL (⟨by omega, by omega, by decide⟩) ?_
      rw [hz]
      refine x_iconst (pc := 39) dX2_buildWords_39 ?_
      refine x_ishr (pc := 40) dX2_buildWords_40 2 (by decide) (by decide) (by omega) ?_
      refine x_bipush (pc := 41) dX2_buildWords_41 (by decide) ?_
      refine x_iandm (pc := 43) dX2_buildWords_43 3 8 (by decide) (by decide) (by decide) ?_
      rw [hd1]
      refine x_cSNI (pc := 44) dX2_buildWords_44 lk_X2_91 (c_ts_uOf) (⟨by decide, by decide⟩) (Nat.le_of_ble_eq_true rfl) rfl ?_
      rintro x G' ⟨rfl, h_G⟩
      obtain rfl := h_G.symm
      rw [hu5]
      refine x_istoren (pc := 47) dX2_buildWords_47 rfl (by decide) rfl ?_
      refine x_aloadn (pc := 48) dX2_buildWords_48 rfl ?_
      refine x_getR (78) (pc := 49) dX2_buildWords_49 fl_X2_36 k_66 (hL 66 (by decide) (by decide)) (f_66_7 hF) ?_
      refine x_iloadn (pc := 52) dX2_buildWords_52 rfl ?_
      refine x_aald (q) (e) (pc := 53) dX2_buildWords_53 k_78 (by decide) (hL 78 (by decide) (by decide)) (⟨by omega, by omega, by decide⟩) (hst') ?_
      refine x_iloadn (pc := 54) dX2_buildWords_54 rfl ?_
      refine x_iald (t) (pc := 55) dX2_buildWords_55 hkq hqL (⟨by omega, by omega, by decide⟩) ?_
      rw [hz]
      refine x_iconst (pc := 56) dX2_buildWords_56 ?_
      refine x_ishr (pc := 57) dX2_buildWords_57 5 (by decide) (by decide) (by omega) ?_
      refine x_iconst (pc := 58) dX2_buildWords_58 ?_
      refine x_isub (pc := 59) dX2_buildWords_59 ?_
      rw [hd2]
      refine x_istore (pc := 60) dX2_buildWords_60 (by decide) rfl ?_
      refine x_iload (pc := 62) dX2_buildWords_62 rfl ?_
      refine x_iconst (pc := 64) dX2_buildWords_64 ?_
      refine x_cne (tgt := 78) (pc := 65) dX2_buildWords_65 (by decide) (by omega) (fun c_65 => ?_) (fun c_65 => ?_)
      · skip
        exact absurd hpm c_65
      refine x_aloadn (pc := 68) dX2_buildWords_68 rfl ?_
      refine x_getR (77) (pc := 69) dX2_buildWords_69 fl_X2_33 k_66 (hL 66 (by decide) (by decide)) (f_66_6 hF) ?_
      refine x_iloadn (pc := 72) dX2_buildWords_72 rfl ?_
      refine x_iconst (pc := 73) dX2_buildWords_73 ?_
      refine x_iastF (uu - 4) (pc := 74) dX2_buildWords_74 k_77 (hL 77 (by decide) (by decide)) (⟨by omega, by omega, by decide⟩) hF (fun hF => ?_)
      refine x_goto (tgt := 106) (pc := 75) dX2_buildWords_75 (by decide) ?_
      refine goOn _ rfl (by rw [x_up_s, hz1]; rfl) (fun _ v hv => ?_) (by omega) (hQ.up (by decide)) hF
      rw [hz0]
      by_cases c : v = uu - 4
      · rw [if_pos c, c, x_up_s]; exact ⟨rfl, Nat.zero_le _, fun j hj => absurd hj (Nat.not_lt_zero j)⟩
      · rw [if_neg c, x_up_k c]
        obtain ⟨a1, a2, a3⟩ := hw v hv
        exact ⟨a1, a2, fun i hi => by rw [x_up_ne (by omega)]; exact a3 i hi⟩
    · have hzl : (zws (zww s0 D t) (uu - 4) p (uu - 4)).length = (zqa (zww s0 D t) P ++ zww s0 D t (uu - 4)).length := by rw [hpP, zws_P, if_pos rfl]
      have hql := zqa_le (w := zww s0 D t) (P := P) hw300 hP8
      have hul := hw300 (uu - 4) hu
      have hzl2 : (zqa (zww s0 D t) P ++ zww s0 D t (uu - 4)).length ≤ 1000 := by rw [List.length_append]; omega
      have hnP := hne2 () (by omega)
      by_cases c4 : P < 4
      · skip
        refine x_iloadn (pc := 10) dX2_buildWords_10 rfl ?_
        refine x_aloadn (pc := 11) dX2_buildWords_11 rfl ?_
        refine x_getR (70) (pc := 12) dX2_buildWords_12 fl_X2_22 k_66 (hL 66 (by decide) (by decide)) (f_66_3 hF) ?_
        refine x_iloadn (pc := 15) dX2_buildWords_15 rfl ?_
        refine x_iald (e) (pc := 16) dX2_buildWords_16 k_70 (hL 70 (by decide) (by decide)) (⟨by omega, by omega, by decide⟩) ?_
        rw [hmp']
        refine x_cge (tgt := 126) (pc := 17) dX2_buildWords_17 (by decide) (by omega) (fun c_17 => ?_) (fun c_17 => ?_)
        · skip
          exact absurd c_17 (by omega)
        refine x_iloadn (pc := 20) dX2_buildWords_20 rfl ?_
        refine x_aloadn (pc := 21) dX2_buildWords_21 rfl ?_
        refine x_getR (78) (pc := 22) dX2_buildWords_22 fl_X2_36 k_66 (hL 66 (by decide) (by decide)) (f_66_7 hF) ?_
        refine x_iloadn (pc := 25) dX2_buildWords_25 rfl ?_
        refine x_aald (q) (e) (pc := 26) dX2_buildWords_26 k_78 (by decide) (hL 78 (by decide) (by decide)) (⟨by omega, by omega, by decide⟩) (hst') ?_
        refine x_alen (pc := 27) dX2_buildWords_27 hkq (by decide) hqL ?_
        refine x_cge (tgt := 126) (pc := 28) dX2_buildWords_28 (by decide) (by omega) (fun c_28 => ?_) (fun c_28 => ?_)
        · skip
          exact absurd c_28 (by omega)
        refine x_aloadn (pc := 31) dX2_buildWords_31 rfl ?_
        refine x_getR (78) (pc := 32) dX2_buildWords_32 fl_X2_36 k_66 (hL 66 (by decide) (by decide)) (f_66_7 hF) ?_
        refine x_iloadn (pc := 35) dX2_buildWords_35 rfl ?_
        refine x_aald (q) (e) (pc := 36) dX2_buildWords_36 k_78 (by decide) (hL 78 (by decide) (by decide)) (⟨by omega, by omega, by decide⟩) (hst') ?_
        refine x_iloadn (pc := 37) dX2_buildWords_37 rfl ?_
        refine x_iald (t) (pc := 38) dX2_buildWords_38 hkq hqL (⟨by omega, by omega, by decide⟩) ?_
        rw [hz]
        refine x_iconst (pc := 39) dX2_buildWords_39 ?_
        refine x_ishr (pc := 40) dX2_buildWords_40 2 (by decide) (by decide) (by omega) ?_
        refine x_bipush (pc := 41) dX2_buildWords_41 (by decide) ?_
        refine x_iandm (pc := 43) dX2_buildWords_43 3 8 (by decide) (by decide) (by decide) ?_
        rw [hd1]
        refine x_cSNI (pc := 44) dX2_buildWords_44 lk_X2_91 (c_ts_uOf) (⟨by decide, by decide⟩) (Nat.le_of_ble_eq_true rfl) rfl ?_
        rintro x G' ⟨rfl, h_G⟩
        obtain rfl := h_G.symm
        rw [hu5]
        refine x_istoren (pc := 47) dX2_buildWords_47 rfl (by decide) rfl ?_
        refine x_aloadn (pc := 48) dX2_buildWords_48 rfl ?_
        refine x_getR (78) (pc := 49) dX2_buildWords_49 fl_X2_36 k_66 (hL 66 (by decide) (by decide)) (f_66_7 hF) ?_
        refine x_iloadn (pc := 52) dX2_buildWords_52 rfl ?_
        refine x_aald (q) (e) (pc := 53) dX2_buildWords_53 k_78 (by decide) (hL 78 (by decide) (by decide)) (⟨by omega, by omega, by decide⟩) (hst') ?_
        refine x_iloadn (pc := 54) dX2_buildWords_54 rfl ?_
        refine x_iald (t) (pc := 55) dX2_buildWords_55 hkq hqL (⟨by omega, by omega, by decide⟩) ?_
        rw [hz]
        refine x_iconst (pc := 56) dX2_buildWords_56 ?_
        refine x_ishr (pc := 57) dX2_buildWords_57 5 (by decide) (by decide) (by omega) ?_
        refine x_iconst (pc := 58) dX2_buildWords_58 ?_
        refine x_isub (pc := 59) dX2_buildWords_59 ?_
        rw [hd2, hpP]
        refine x_istore (pc := 60) dX2_buildWords_60 (by decide) rfl ?_
        refine x_iload (pc := 62) dX2_buildWords_62 rfl ?_
        refine x_iconst (pc := 64) dX2_buildWords_64 ?_
        refine x_cne (tgt := 78) (pc := 65) dX2_buildWords_65 (by decide) (by omega) (fun c_65 => ?_) (fun c_65 => ?_)
        rotate_left
        · skip
          exact absurd c_65 (by omega)
        refine x_iload (pc := 78) dX2_buildWords_78 rfl ?_
        refine x_cSNI (pc := 80) dX2_buildWords_80 lk_X2_95 (c_ts_isU (by omega)) (⟨by decide, by decide⟩) (Nat.le_of_ble_eq_true rfl) rfl ?_
        rintro x G' ⟨hx, h_G⟩
        obtain rfl := h_G.symm
        rw [if_neg (by omega)] at hx
        refine x_ieq (tgt := 99) (pc := 83) dX2_buildWords_83 (by decide) (by omega) (fun c_83 => ?_) (fun c_83 => ?_)
        rotate_left
        · skip
          exact absurd hx c_83
        refine x_aloadn (pc := 99) dX2_buildWords_99 rfl ?_
        refine x_iloadn (pc := 100) dX2_buildWords_100 rfl ?_
        refine x_iload (pc := 101) dX2_buildWords_101 rfl ?_
        refine x_cVV (pc := 103) dX2_buildWords_103 lk_X2_102 (c_ch_letter (w := zww s0 D t) (u := uu - 4) (P := P) hL hF hu c4 hw) k_66 ⟨by decide, rfl⟩ (hL 66 (by decide) (by decide)) (⟨by decide, by decide⟩) (Nat.le_of_ble_eq_true rfl) rfl ?_
        rintro G2 ⟨k1, k2, k3, hF⟩
        have key := goOn G2 rfl (by rw [hzl]; exact k1) (fun hh => by rw [hpP]; exact k2 (by omega)) (by omega) (hQ.tr k3) hF
        rw [hpP] at key
        exact key
      · have hp4 : ((P : Nat) : Int) % 4 = ((P - 4 : Nat) : Int) := by omega
        refine x_iloadn (pc := 10) dX2_buildWords_10 rfl ?_
        refine x_aloadn (pc := 11) dX2_buildWords_11 rfl ?_
        refine x_getR (70) (pc := 12) dX2_buildWords_12 fl_X2_22 k_66 (hL 66 (by decide) (by decide)) (f_66_3 hF) ?_
        refine x_iloadn (pc := 15) dX2_buildWords_15 rfl ?_
        refine x_iald (e) (pc := 16) dX2_buildWords_16 k_70 (hL 70 (by decide) (by decide)) (⟨by omega, by omega, by decide⟩) ?_
        rw [hmp']
        refine x_cge (tgt := 126) (pc := 17) dX2_buildWords_17 (by decide) (by omega) (fun c_17 => ?_) (fun c_17 => ?_)
        · skip
          exact absurd c_17 (by omega)
        refine x_iloadn (pc := 20) dX2_buildWords_20 rfl ?_
        refine x_aloadn (pc := 21) dX2_buildWords_21 rfl ?_
        refine x_getR (78) (pc := 22) dX2_buildWords_22 fl_X2_36 k_66 (hL 66 (by decide) (by decide)) (f_66_7 hF) ?_
        refine x_iloadn (pc := 25) dX2_buildWords_25 rfl ?_
        refine x_aald (q) (e) (pc := 26) dX2_buildWords_26 k_78 (by decide) (hL 78 (by decide) (by decide)) (⟨by omega, by omega, by decide⟩) (hst') ?_
        refine x_alen (pc := 27) dX2_buildWords_27 hkq (by decide) hqL ?_
        refine x_cge (tgt := 126) (pc := 28) dX2_buildWords_28 (by decide) (by omega) (fun c_28 => ?_) (fun c_28 => ?_)
        · skip
          exact absurd c_28 (by omega)
        refine x_aloadn (pc := 31) dX2_buildWords_31 rfl ?_
        refine x_getR (78) (pc := 32) dX2_buildWords_32 fl_X2_36 k_66 (hL 66 (by decide) (by decide)) (f_66_7 hF) ?_
        refine x_iloadn (pc := 35) dX2_buildWords_35 rfl ?_
        refine x_aald (q) (e) (pc := 36) dX2_buildWords_36 k_78 (by decide) (hL 78 (by decide) (by decide)) (⟨by omega, by omega, by decide⟩) (hst') ?_
        refine x_iloadn (pc := 37) dX2_buildWords_37 rfl ?_
        refine x_iald (t) (pc := 38) dX2_buildWords_38 hkq hqL (⟨by omega, by omega, by decide⟩) ?_
        rw [hz]
        refine x_iconst (pc := 39) dX2_buildWords_39 ?_
        refine x_ishr (pc := 40) dX2_buildWords_40 2 (by decide) (by decide) (by omega) ?_
        refine x_bipush (pc := 41) dX2_buildWords_41 (by decide) ?_
        refine x_iandm (pc := 43) dX2_buildWords_43 3 8 (by decide) (by decide) (by decide) ?_
        rw [hd1]
        refine x_cSNI (pc := 44) dX2_buildWords_44 lk_X2_91 (c_ts_uOf) (⟨by decide, by decide⟩) (Nat.le_of_ble_eq_true rfl) rfl ?_
        rintro x G' ⟨rfl, h_G⟩
        obtain rfl := h_G.symm
        rw [hu5]
        refine x_istoren (pc := 47) dX2_buildWords_47 rfl (by decide) rfl ?_
        refine x_aloadn (pc := 48) dX2_buildWords_48 rfl ?_
        refine x_getR (78) (pc := 49) dX2_buildWords_49 fl_X2_36 k_66 (hL 66 (by decide) (by decide)) (f_66_7 hF) ?_
        refine x_iloadn (pc := 52) dX2_buildWords_52 rfl ?_
        refine x_aald (q) (e) (pc := 53) dX2_buildWords_53 k_78 (by decide) (hL 78 (by decide) (by decide)) (⟨by omega, by omega, by decide⟩) (hst') ?_
        refine x_iloadn (pc := 54) dX2_buildWords_54 rfl ?_
        refine x_iald (t) (pc := 55) dX2_buildWords_55 hkq hqL (⟨by omega, by omega, by decide⟩) ?_
        rw [hz]
        refine x_iconst (pc := 56) dX2_buildWords_56 ?_
        refine x_ishr (pc := 57) dX2_buildWords_57 5 (by decide) (by decide) (by omega) ?_
        refine x_iconst (pc := 58) dX2_buildWords_58 ?_
        refine x_isub (pc := 59) dX2_buildWords_59 ?_
        rw [hd2, hpP]
        refine x_istore (pc := 60) dX2_buildWords_60 (by decide) rfl ?_
        refine x_iload (pc := 62) dX2_buildWords_62 rfl ?_
        refine x_iconst (pc := 64) dX2_buildWords_64 ?_
        refine x_cne (tgt := 78) (pc := 65) dX2_buildWords_65 (by decide) (by omega) (fun c_65 => ?_) (fun c_65 => ?_)
        rotate_left
        · skip
          exact absurd c_65 (by omega)
        refine x_iload (pc := 78) dX2_buildWords_78 rfl ?_
        refine x_cSNI (pc := 80) dX2_buildWords_80 lk_X2_95 (c_ts_isU (by omega)) (⟨by decide, by decide⟩) (Nat.le_of_ble_eq_true rfl) rfl ?_
        rintro x G' ⟨hx, h_G⟩
        obtain rfl := h_G.symm
        rw [if_pos (by omega)] at hx
        refine x_ieq (tgt := 99) (pc := 83) dX2_buildWords_83 (by decide) (by omega) (fun c_83 => ?_) (fun c_83 => ?_)
        · skip
          exact absurd c_83 (by omega)
        refine x_aloadn (pc := 86) dX2_buildWords_86 rfl ?_
        refine x_iloadn (pc := 87) dX2_buildWords_87 rfl ?_
        refine x_iload (pc := 88) dX2_buildWords_88 rfl ?_
        refine x_cSNI (pc := 90) dX2_buildWords_90 lk_X2_91 (c_ts_uOf) (⟨by decide, by decide⟩) (Nat.le_of_ble_eq_true rfl) rfl ?_
        rintro x G' ⟨rfl, h_G⟩
        obtain rfl := h_G.symm
        rw [hp4]
        refine x_cVV (pc := 93) dX2_buildWords_93 lk_X2_98 (c_ch_word (w := zww s0 D t) (u := uu - 4) (P := P) hL hF hu (by omega) (by omega) hw) k_66 ⟨by decide, rfl⟩ (hL 66 (by decide) (by decide)) (⟨by decide, by decide⟩) (Nat.le_of_ble_eq_true rfl) rfl ?_
        rintro G2 ⟨k1, k2, k3, hF⟩
        refine x_goto (tgt := 106) (pc := 96) dX2_buildWords_96 (by decide) ?_
        have key := goOn G2 rfl (by rw [hzl]; exact k1) (fun hh => by rw [hpP]; exact k2 (by omega)) (by omega) (hQ.tr k3) hF
        rw [hpP] at key
        exact key
theorem c_ch_buildWords {e q : Nat} {G : Nat → Nat → Int} (hL : x_SL L) (hF : x_Fin xFL G) (h0 : zvS s0) (hl : (zN s0 6000).length ≤ 1500) (hE : zEd s0 D m) (he : e < 4) (hq : 169 ≤ q) (hkq : xK q = (13, 1500)) (hqL : q ∈ L) (hmp : G 70 e = ((m : Nat) : Int)) (hst : G 78 e = ((q : Nat) : Int)) (hsv : ∀ i, i < m → G q i = ((zenc s0 (zcb s0 (zcd (zcb s0) D i)) : Nat) : Int)) :
    CM yX2_buildWords mX2_buildWords 3 0 0 [vR 66, vI e] L G (pBwc L G s0 D m) := by
  refine Ct.of_X (μ := mX2_buildWords) rfl rfl (by decide) (fun h => by cases h) (Nat.le_of_ble_eq_true rfl) rfl ?_
  refine x_aloadn (pc := 0) dX2_buildWords_0 rfl ?_
  refine x_getR (77) (pc := 1) dX2_buildWords_1 fl_X2_33 k_66 (hL 66 (by decide) (by decide)) (f_66_6 hF) ?_
  refine x_iconst (pc := 4) dX2_buildWords_4 ?_
  refine x_cSV (pc := 5) dX2_buildWords_5 lk_X2_85 (c_fillI k_77 (hL 77 (by decide) (by decide)) (by decide) hF) (⟨by decide, by decide⟩) (Nat.le_of_ble_eq_true rfl) rfl ?_
  rintro G1 ⟨f1, f2, hF⟩
  refine x_iconst (pc := 8) dX2_buildWords_8 ?_
  refine x_istoren (pc := 9) dX2_buildWords_9 rfl (by decide) rfl ?_
  refine X.imp (fun v L' G' w => ?_) (l_ch_bw (G0 := G1) hL h0 hl hE he hq hkq hqL (by rw [f2 _ (by decide)]; exact hmp) (by rw [f2 _ (by decide)]; exact hst) (fun i hi => by rw [f2 _ (by simp; omega)]; exact hsv i hi) m 0 G1 _ _ (Nat.zero_add _) (fun v hv => ⟨f1 v hv, Nat.zero_le _, fun i hi => absurd hi (Nat.not_lt_zero i)⟩) (fun i hi v hv => by rw [show i = 0 by omega]; exact Nat.zero_le _) FR.rf hF)
  obtain ⟨w1, y, w2, w3, w4, w5⟩ := w
  exact ⟨w1, y, w2, w3, (f2.mono (by decide)).tr w4, w5⟩
end XBW

