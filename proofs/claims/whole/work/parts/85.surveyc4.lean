/-! the class: the survey, its rows made at first -/
theorem la_I : Cond.arrayClass .int ∈ x_tb := x_tbm (tt_1 (List.mem_of_getElem? (i := 39) rfl)) rfl
theorem la_J : Cond.arrayClass .long ∈ x_tb := x_tbm (tt_1 (List.mem_of_getElem? (i := 175) rfl)) rfl
theorem la_Z : Cond.arrayClass .boolean ∈ x_tb := x_tbm (tt_1 (List.mem_of_getElem? (i := 212) rfl)) rfl
section XSX
variable {m : Nat} {S : Nat → Nat} {I : Nat → Nat → Nat} {lo hi mk mo : Nat → Nat} {L : List Nat}
abbrev zsvS : List Nat := [46, 52, 53, 54, 55, 56, 57, 58, 59, 60, 62, 63, 167, 168]
/-- what stands behind a survey -/
def zSY (L : List Nat) (G0 : Nat → Nat → Int) (m : Nat) (S : Nat → Nat) (I : Nat → Nat → Nat) (lo hi mk : Nat → Nat) (G : Nat → Nat → Int) : Prop := zSu (zWc m S I lo hi mk) (zVc m S I mk) 24057 G ∧ G 46 13 = 1 ∧ cRW L G ∧ FR zsvS G0 G ∧ x_Fin xFL G
def zmo (S : Nat → Nat) (I : Nat → Nat → Nat) (m : Nat) (hi : Nat → Nat) (u : Nat) : Nat := if zub S I (2 * m) u = 0 then 0 else hi u
theorem l_an_sv182 {mc ms k n : Nat} {G0 : Nat → Nat → Int} {o2 : Int} {lg : Nat} {Q : x_Q} (hL : x_SL L) (hE : cEq m S I G0) (hb : cBd lo hi mk G0) (hlg : lg = zmo S I m hi 0 + zmo S I m hi 1 + zmo S I m hi 2 + zmo S I m hi 3)
    (fin : ∀ G', zSY L G0 m S I lo hi mk G' → Q none L G') :
    ∀ (r t : Nat) (G : Nat → Nat → Int), t + r = 33 → lo 0 + lo 1 + lo 2 + lo 3 ≤ t → cLM lo (zmo S I m hi) G → cRW L G → G 46 13 = 1 → zSu (zWc m S I lo hi mk) (zVc m S I mk) (729 * t) G → FR zsvS G0 G → x_Fin xFL G →
    X mX1_survey 7 mc ms Q 182 [some (vR 46), some (vR 4), some (vI o2), some (vI lg), some (vI t)] [] L G k n := by
  have hmo : ∀ u, u < 4 → zmo S I m hi u = if zub S I (2 * m) u = 0 then 0 else hi u := fun _ _ => rfl
  intro r
  induction r with
  | zero =>
    intro t G ht hlo hlm hrw hsv hS hQ hF
    have ht : t = 33 := by omega
    subst ht
    have l0 := hlm 0 (by decide)
    have l1 := hlm 1 (by decide)
    have l2 := hlm 2 (by decide)
    have l3 := hlm 3 (by decide)
    refine x_iload (pc := 182) dX1_survey_182 rfl ?_
    refine x_iloadn (pc := 184) dX1_survey_184 rfl ?_
    refine x_cgt (tgt := 201) (pc := 185) dX1_survey_185 (by decide) (by omega) (fun c_185 => ?_) (fun c_185 => ?_)
    rotate_left
    · skip
      exact absurd c_185 (by omega)
    exact x_vret dX1_survey_201 rfl (fin G ⟨hS, hsv, hrw, hQ, hF⟩)
  | succ r ih =>
    intro t G ht hlo hlm hrw hsv hS hQ hF
    have l0 := hlm 0 (by decide)
    have l1 := hlm 1 (by decide)
    have l2 := hlm 2 (by decide)
    have l3 := hlm 3 (by decide)
    have hE1 := hE.FR hQ (by decide)
    have hb1 := hb.FR hQ (by decide) (by decide) (by decide)
    refine x_iload (pc := 182) dX1_survey_182 rfl ?_
    refine x_iloadn (pc := 184) dX1_survey_184 rfl ?_
    refine x_cgt (tgt := 201) (pc := 185) dX1_survey_185 (by decide) (by omega) (fun c_185 => ?_) (fun c_185 => ?_)
    · skip
      refine x_vret dX1_survey_201 rfl (fin G ⟨hS.skip (by omega) (fun c h1 h2 => ?_), hsv, hrw, hQ, hF⟩)
      rcases Nat.eq_zero_or_pos (zWc m S I lo hi mk c) with e | e
      · exact e
      · obtain ⟨w', x', y', d1, d2, d3, d4⟩ := zdig (t := c / 729) (c := c) (by omega) (by omega)
        have := zWc_t hmo e d4 d1 d2 d3
        omega
    · skip
      refine x_aloadn (pc := 188) dX1_survey_188 rfl ?_
      refine x_aloadn (pc := 189) dX1_survey_189 rfl ?_
      refine x_iload (pc := 190) dX1_survey_190 rfl ?_
      refine x_cVV (pc := 192) dX1_survey_192 lk_X1_77 (c_an_survOf hL hF hE1 hb1 hrw hlm hmo (by omega) hS) k_46 ⟨by decide, rfl⟩ (hL 46 (by decide) (by decide)) (⟨by decide, by decide⟩) (Nat.le_of_ble_eq_true rfl) rfl ?_
      rintro G1 ⟨a1, a2, a3, hF⟩
      refine x_iinc (pc := 195) dX1_survey_195 rfl (by decide) rfl ?_
      refine x_goto (tgt := 182) (pc := 198) dX1_survey_198 (by decide) ?_
      refine ih (t + 1) G1 (by omega) (by omega) (fun u hu => by rw [a3 _ (by decide), a3 _ (by decide)]; exact hlm u hu) ⟨hrw.1, by rw [a2 9 (by decide) (by decide)]; exact hrw.2.1, by rw [a2 10 (by decide) (by decide)]; exact hrw.2.2⟩ (by rw [a2 13 (by decide) (by decide)]; exact hsv) a1 (hQ.tr (a3.mono (by decide))) hF
theorem l_an_sv123 {mc ms k n : Nat} {o2 o3 o4 : Option (Nat × Int)} {G0 G : Nat → Nat → Int} {Q : x_Q} (hL : x_SL L) (hF : x_Fin xFL G) (hE : cEq m S I G0) (hb : cBd lo hi mk G0) (hlm : cLM lo (zmo S I m hi) G) (hrw : cRW L G) (hsv : G 46 13 = 1) (hS : zSu (zWc m S I lo hi mk) (zVc m S I mk) 0 G) (hQ : FR zsvS G0 G)
    (fin : ∀ G', zSY L G0 m S I lo hi mk G' → Q none L G') :
    X mX1_survey 7 mc ms Q 123 [some (vR 46), some (vR 4), o2, o3, o4] [] L G k n := by
  have hmo : ∀ u, u < 4 → zmo S I m hi u = if zub S I (2 * m) u = 0 then 0 else hi u := fun _ _ => rfl
  have l0 := hlm 0 (by decide)
  have l1 := hlm 1 (by decide)
  have l2 := hlm 2 (by decide)
  have l3 := hlm 3 (by decide)
  have hs : zSu (zWc m S I lo hi mk) (zVc m S I mk) (729 * (lo 0 + lo 1 + lo 2 + lo 3)) G := hS.skip (Nat.zero_le _) (fun c h1 h2 => by
    rcases Nat.eq_zero_or_pos (zWc m S I lo hi mk c) with e | e
    · exact e
    · obtain ⟨w', x', y', d1, d2, d3, d4⟩ := zdig (t := c / 729) (c := c) (by omega) (by omega)
      have := zWc_t hmo e d4 d1 d2 d3
      omega)
  refine x_aloadn (pc := 123) dX1_survey_123 rfl ?_
  refine x_getR (52) (pc := 124) dX1_survey_124 fl_X1_27 k_46 (hL 46 (by decide) (by decide)) (f_46_5 hF) ?_
  refine x_iconst (pc := 127) dX1_survey_127 ?_
  refine x_iald (0) (pc := 128) dX1_survey_128 k_52 (hL 52 (by decide) (by decide)) (⟨rfl, by decide, by decide⟩) ?_
  refine x_aloadn (pc := 129) dX1_survey_129 rfl ?_
  refine x_getR (52) (pc := 130) dX1_survey_130 fl_X1_27 k_46 (hL 46 (by decide) (by decide)) (f_46_5 hF) ?_
  refine x_iconst (pc := 133) dX1_survey_133 ?_
  refine x_iald (1) (pc := 134) dX1_survey_134 k_52 (hL 52 (by decide) (by decide)) (⟨rfl, by decide, by decide⟩) ?_
  refine x_iadd (pc := 135) dX1_survey_135 ?_
  refine x_aloadn (pc := 136) dX1_survey_136 rfl ?_
  refine x_getR (52) (pc := 137) dX1_survey_137 fl_X1_27 k_46 (hL 46 (by decide) (by decide)) (f_46_5 hF) ?_
  refine x_iconst (pc := 140) dX1_survey_140 ?_
  refine x_iald (2) (pc := 141) dX1_survey_141 k_52 (hL 52 (by decide) (by decide)) (⟨rfl, by decide, by decide⟩) ?_
  refine x_iadd (pc := 142) dX1_survey_142 ?_
  refine x_aloadn (pc := 143) dX1_survey_143 rfl ?_
  refine x_getR (52) (pc := 144) dX1_survey_144 fl_X1_27 k_46 (hL 46 (by decide) (by decide)) (f_46_5 hF) ?_
  refine x_iconst (pc := 147) dX1_survey_147 ?_
  refine x_iald (3) (pc := 148) dX1_survey_148 k_52 (hL 52 (by decide) (by decide)) (⟨rfl, by decide, by decide⟩) ?_
  refine x_iadd (pc := 149) dX1_survey_149 ?_
  rw [show G 52 0 + G 52 1 + G 52 2 + G 52 3 = ((lo 0 + lo 1 + lo 2 + lo 3 : Nat) : Int) by omega]
  refine x_istoren (pc := 150) dX1_survey_150 rfl (by decide) rfl ?_
  refine x_aloadn (pc := 151) dX1_survey_151 rfl ?_
  refine x_getR (53) (pc := 152) dX1_survey_152 fl_X1_30 k_46 (hL 46 (by decide) (by decide)) (f_46_6 hF) ?_
  refine x_iconst (pc := 155) dX1_survey_155 ?_
  refine x_iald (0) (pc := 156) dX1_survey_156 k_53 (hL 53 (by decide) (by decide)) (⟨rfl, by decide, by decide⟩) ?_
  refine x_aloadn (pc := 157) dX1_survey_157 rfl ?_
  refine x_getR (53) (pc := 158) dX1_survey_158 fl_X1_30 k_46 (hL 46 (by decide) (by decide)) (f_46_6 hF) ?_
  refine x_iconst (pc := 161) dX1_survey_161 ?_
  refine x_iald (1) (pc := 162) dX1_survey_162 k_53 (hL 53 (by decide) (by decide)) (⟨rfl, by decide, by decide⟩) ?_
  refine x_iadd (pc := 163) dX1_survey_163 ?_
  refine x_aloadn (pc := 164) dX1_survey_164 rfl ?_
  refine x_getR (53) (pc := 165) dX1_survey_165 fl_X1_30 k_46 (hL 46 (by decide) (by decide)) (f_46_6 hF) ?_
  refine x_iconst (pc := 168) dX1_survey_168 ?_
  refine x_iald (2) (pc := 169) dX1_survey_169 k_53 (hL 53 (by decide) (by decide)) (⟨rfl, by decide, by decide⟩) ?_
  refine x_iadd (pc := 170) dX1_survey_170 ?_
  refine x_aloadn (pc := 171) dX1_survey_171 rfl ?_
  refine x_getR (53) (pc := 172) dX1_survey_172 fl_X1_30 k_46 (hL 46 (by decide) (by decide)) (f_46_6 hF) ?_
  refine x_iconst (pc := 175) dX1_survey_175 ?_
  refine x_iald (3) (pc := 176) dX1_survey_176 k_53 (hL 53 (by decide) (by decide)) (⟨rfl, by decide, by decide⟩) ?_
  refine x_iadd (pc := 177) dX1_survey_177 ?_
  rw [show G 53 0 + G 53 1 + G 53 2 + G 53 3 = ((zmo S I m hi 0 + zmo S I m hi 1 + zmo S I m hi 2 + zmo S I m hi 3 : Nat) : Int) by omega]
  refine x_istoren (pc := 178) dX1_survey_178 rfl (by decide) rfl ?_
  refine x_iloadn (pc := 179) dX1_survey_179 rfl ?_
  refine x_istore (pc := 180) dX1_survey_180 (by decide) rfl ?_
  exact l_an_sv182 hL hE hb rfl fin (33 - (lo 0 + lo 1 + lo 2 + lo 3)) (lo 0 + lo 1 + lo 2 + lo 3) G (by omega) (Nat.le_refl _) hlm hrw hsv hs hQ hF
theorem l_an_sv74 {mc ms k n : Nat} {G0 : Nat → Nat → Int} {Q : x_Q} (hL : x_SL L) (hE : cEq m S I G0) (hb : cBd lo hi mk G0)
    (fin : ∀ G', zSY L G0 m S I lo hi mk G' → Q none L G') :
    ∀ (r u : Nat) (G : Nat → Nat → Int) (o3 o4 : Option (Nat × Int)), u + r = 4 → (∀ v, v < u → G 52 v = lo v ∧ G 53 v = zmo S I m hi v) → cRW L G → G 46 13 = 1 → zSu (zWc m S I lo hi mk) (zVc m S I mk) 0 G → FR zsvS G0 G → x_Fin xFL G →
    X mX1_survey 7 mc ms Q 74 [some (vR 46), some (vR 4), some (vI u), o3, o4] [] L G k n := by
  intro r
  induction r with
  | zero =>
    intro u G o3 o4 hu hlm hrw hsv hS hQ hF
    have hu : u = 4 := by omega
    subst hu
    refine x_iloadn (pc := 74) dX1_survey_74 rfl ?_
    refine x_iconst (pc := 75) dX1_survey_75 ?_
    refine x_cge (tgt := 123) (pc := 76) dX1_survey_76 (by decide) (by omega) (fun c_76 => ?_) (fun c_76 => ?_)
    rotate_left
    · skip
      exact absurd c_76 (by decide)
    refine l_an_sv123 hL hF hE hb (fun v hv => ⟨(hlm v hv).1, (hlm v hv).2, ?_, ?_⟩) hrw hsv hS hQ fin
    · have := hb v hv; omega
    · have := hb v hv; unfold zmo; split <;> omega
  | succ r ih =>
    intro u G o3 o4 hu hlm hrw hsv hS hQ hF
    have hE1 := hE.FR hQ (by decide)
    have hb1 := hb.FR hQ (by decide) (by decide) (by decide)
    obtain ⟨b1, b2, b3, b4, b5, b6⟩ := hb1 u (by omega)
    have hz2 := zub_lt S I (2 * m) u
    have next : ∀ (x : Nat) (G' : Nat → Nat → Int) (o3 : Option (Nat × Int)), x = zmo S I m hi u → G' = x_up (x_up G 52 u (lo u : Nat)) 53 u (x : Nat) → x_Fin xFL G' → X mX1_survey 7 mc ms Q 74 [some (vR 46), some (vR 4), some (vI ((u + 1 : Nat) : Int)), o3, o4] [] L G' k n := fun x G' o3 hx hG' hF' => by
      have hfr : FR [52, 53] G G' := by rw [hG']; exact (FR.rf.up (by decide)).up (by decide)
      refine ih (u + 1) G' o3 o4 (by omega) (fun v hv => ?_) ⟨hrw.1, by rw [hfr _ (by decide)]; exact hrw.2.1, by rw [hfr _ (by decide)]; exact hrw.2.2⟩ (by rw [hfr _ (by decide)]; exact hsv) (hS.FR hfr (by decide) (by decide) (by decide) (by decide)) (hQ.tr (hfr.mono (by decide))) hF'
      rw [hG']
      by_cases e : v = u
      · subst e; exact ⟨by simp [x_up], by simp [x_up]; omega⟩
      · have := hlm v (by omega); exact ⟨by simp [x_up, e]; exact this.1, by simp [x_up, e]; exact this.2⟩
    by_cases c : zub S I (2 * m) u = 0
    · skip
      refine x_iloadn (pc := 74) dX1_survey_74 rfl ?_
      refine x_iconst (pc := 75) dX1_survey_75 ?_
      refine x_cge (tgt := 123) (pc := 76) dX1_survey_76 (by decide) (by omega) (fun c_76 => ?_) (fun c_76 => ?_)
      · skip
        exact absurd c_76 (by omega)
      refine x_aloadn (pc := 79) dX1_survey_79 rfl ?_
      refine x_iloadn (pc := 80) dX1_survey_80 rfl ?_
      refine x_cVI (pc := 81) dX1_survey_81 lk_X1_72 (c_Eq_hasU (u := u) hL hF hE1 (by omega)) k_4 ⟨by decide, rfl⟩ (hL 4 (by decide) (by decide)) (⟨by decide, by decide⟩) (Nat.le_of_ble_eq_true rfl) rfl ?_
      rintro x G' ⟨rfl, rfl⟩
      refine x_istoren (pc := 84) dX1_survey_84 rfl (by decide) rfl ?_
      refine x_aloadn (pc := 85) dX1_survey_85 rfl ?_
      refine x_getR (52) (pc := 86) dX1_survey_86 fl_X1_27 k_46 (hL 46 (by decide) (by decide)) (f_46_5 hF) ?_
      refine x_iloadn (pc := 89) dX1_survey_89 rfl ?_
      refine x_aloadn (pc := 90) dX1_survey_90 rfl ?_
      refine x_getR (47) (pc := 91) dX1_survey_91 fl_X1_9 k_46 (hL 46 (by decide) (by decide)) (f_46_0 hF) ?_
      refine x_iloadn (pc := 94) dX1_survey_94 rfl ?_
      refine x_iald (u) (pc := 95) dX1_survey_95 k_47 (hL 47 (by decide) (by decide)) (⟨by omega, by omega, by decide⟩) ?_
      rw [b1]
      refine x_iastF (u) (pc := 96) dX1_survey_96 k_52 (hL 52 (by decide) (by decide)) (⟨by omega, by omega, by decide⟩) hF (fun hF => ?_)
      refine x_aloadn (pc := 97) dX1_survey_97 rfl ?_
      refine x_getR (53) (pc := 98) dX1_survey_98 fl_X1_30 k_46 (hL 46 (by decide) (by decide)) (f_46_6 hF) ?_
      refine x_iloadn (pc := 101) dX1_survey_101 rfl ?_
      refine x_iloadn (pc := 102) dX1_survey_102 rfl ?_
      refine x_ieq (tgt := 115) (pc := 103) dX1_survey_103 (by decide) (by omega) (fun c_103 => ?_) (fun c_103 => ?_)
      rotate_left
      · skip
        exact absurd (by omega) c_103
      refine x_iconst (pc := 115) dX1_survey_115 ?_
      refine x_iastF (u) (pc := 116) dX1_survey_116 k_53 (hL 53 (by decide) (by decide)) (⟨by omega, by omega, by decide⟩) hF (fun hF => ?_)
      refine x_iinc (pc := 117) dX1_survey_117 rfl (by decide) rfl ?_
      refine x_goto (tgt := 74) (pc := 120) dX1_survey_120 (by decide) ?_
      exact next 0 _ _ (by unfold zmo; rw [if_pos c]) rfl hF
    · skip
      refine x_iloadn (pc := 74) dX1_survey_74 rfl ?_
      refine x_iconst (pc := 75) dX1_survey_75 ?_
      refine x_cge (tgt := 123) (pc := 76) dX1_survey_76 (by decide) (by omega) (fun c_76 => ?_) (fun c_76 => ?_)
      · skip
        exact absurd c_76 (by omega)
      refine x_aloadn (pc := 79) dX1_survey_79 rfl ?_
      refine x_iloadn (pc := 80) dX1_survey_80 rfl ?_
      refine x_cVI (pc := 81) dX1_survey_81 lk_X1_72 (c_Eq_hasU (u := u) hL hF hE1 (by omega)) k_4 ⟨by decide, rfl⟩ (hL 4 (by decide) (by decide)) (⟨by decide, by decide⟩) (Nat.le_of_ble_eq_true rfl) rfl ?_
      rintro x G' ⟨rfl, rfl⟩
      refine x_istoren (pc := 84) dX1_survey_84 rfl (by decide) rfl ?_
      refine x_aloadn (pc := 85) dX1_survey_85 rfl ?_
      refine x_getR (52) (pc := 86) dX1_survey_86 fl_X1_27 k_46 (hL 46 (by decide) (by decide)) (f_46_5 hF) ?_
      refine x_iloadn (pc := 89) dX1_survey_89 rfl ?_
      refine x_aloadn (pc := 90) dX1_survey_90 rfl ?_
      refine x_getR (47) (pc := 91) dX1_survey_91 fl_X1_9 k_46 (hL 46 (by decide) (by decide)) (f_46_0 hF) ?_
      refine x_iloadn (pc := 94) dX1_survey_94 rfl ?_
      refine x_iald (u) (pc := 95) dX1_survey_95 k_47 (hL 47 (by decide) (by decide)) (⟨by omega, by omega, by decide⟩) ?_
      rw [b1]
      refine x_iastF (u) (pc := 96) dX1_survey_96 k_52 (hL 52 (by decide) (by decide)) (⟨by omega, by omega, by decide⟩) hF (fun hF => ?_)
      refine x_aloadn (pc := 97) dX1_survey_97 rfl ?_
      refine x_getR (53) (pc := 98) dX1_survey_98 fl_X1_30 k_46 (hL 46 (by decide) (by decide)) (f_46_6 hF) ?_
      refine x_iloadn (pc := 101) dX1_survey_101 rfl ?_
      refine x_iloadn (pc := 102) dX1_survey_102 rfl ?_
      refine x_ieq (tgt := 115) (pc := 103) dX1_survey_103 (by decide) (by omega) (fun c_103 => ?_) (fun c_103 => ?_)
      · skip
        exact absurd c_103 (by omega)
      refine x_aloadn (pc := 106) dX1_survey_106 rfl ?_
      refine x_getR (48) (pc := 107) dX1_survey_107 fl_X1_15 k_46 (hL 46 (by decide) (by decide)) (f_46_1 hF) ?_
      refine x_iloadn (pc := 110) dX1_survey_110 rfl ?_
      refine x_iald (u) (pc := 111) dX1_survey_111 k_48 (hL 48 (by decide) (by decide)) (⟨by omega, by omega, by decide⟩) ?_
      rw [x_up_ne (by decide), b2]
      refine x_goto (tgt := 116) (pc := 112) dX1_survey_112 (by decide) ?_
      refine x_iastF (u) (pc := 116) dX1_survey_116 k_53 (hL 53 (by decide) (by decide)) (⟨by omega, by omega, by decide⟩) hF (fun hF => ?_)
      refine x_iinc (pc := 117) dX1_survey_117 rfl (by decide) rfl ?_
      refine x_goto (tgt := 74) (pc := 120) dX1_survey_120 (by decide) ?_
      exact next (hi u) _ _ (by unfold zmo; rw [if_neg c]) rfl hF
theorem l_an_sv63 {mc ms k n : Nat} {G0 G : Nat → Nat → Int} {Q : x_Q} (hL : x_SL L) (hF : x_Fin xFL G) (hE : cEq m S I G0) (hb : cBd lo hi mk G0) (hrw : cRW L G) (hsv : G 46 13 = 1) (hr : G 46 11 = 0) (ht : G 46 12 = 0) (hQ : FR zsvS G0 G)
    (fin : ∀ G', zSY L G0 m S I lo hi mk G' → Q none L G') :
    X mX1_survey 7 mc ms Q 63 [some (vR 46), some (vR 4), none, none, none] [] L G k n := by
  refine x_aloadn (pc := 63) dX1_survey_63 rfl ?_
  refine x_getR (54) (pc := 64) dX1_survey_64 fl_X1_33 k_46 (hL 46 (by decide) (by decide)) (f_46_7 hF) ?_
  refine x_bipush (pc := 67) dX1_survey_67 (by decide) ?_
  refine x_cSV (pc := 69) dX1_survey_69 lk_X1_62 (c_fillI k_54 (hL _ (by decide) (by decide)) (by decide) hF) (⟨by decide, by decide⟩) (Nat.le_of_ble_eq_true rfl) rfl ?_
  rintro G1 ⟨a1, a2, hF⟩
  refine x_iconst (pc := 72) dX1_survey_72 ?_
  refine x_istoren (pc := 73) dX1_survey_73 rfl (by decide) rfl ?_
  refine l_an_sv74 hL hE hb fin 4 0 G1 none none (by omega) (fun v hv => absurd hv (Nat.not_lt_zero v)) ⟨hrw.1, by rw [a2 _ (by decide)]; exact hrw.2.1, by rw [a2 _ (by decide)]; exact hrw.2.2⟩ (by rw [a2 _ (by decide)]; exact hsv) ⟨by rw [a2 _ (by decide)]; exact hr, by rw [a2 _ (by decide)]; exact ht, fun c' hc' => absurd hc' (Nat.not_lt_zero c'), fun cell hc => a1 cell hc⟩ (hQ.tr (a2.mono (by decide))) hF
theorem x_FinU {l : List (Nat × Nat × Nat)} {G : Nat → Nat → Int} {r k : Nat} {x : Int} (h : x_Fin l G) (hn : ∀ t ∈ l, ¬ (t.1 = r ∧ t.2.1 = k)) : x_Fin l (x_up G r k x) := fun t ht => by
  unfold x_up; rw [if_neg (hn t ht)]; exact h t ht
theorem x_FinN {l : List (Nat × Nat × Nat)} {G : Nat → Nat → Int} {q : Nat} (h : x_Fin l G) (hn : ∀ t ∈ l, t.1 ≠ q) : x_Fin l (x_nwG G q) := fun t ht => by
  rw [x_nwG_ne (hn t ht)]; exact h t ht
theorem x_FL46 : ∀ t ∈ xFL, ¬ (t.1 = 46 ∧ t.2.1 = 9) ∧ ¬ (t.1 = 46 ∧ t.2.1 = 10) ∧ t.1 < 167 := by decide +kernel
/-- the rows' arrays: made, or not yet -/
def cAr (L : List Nat) (G : Nat → Nat → Int) : Prop := cRW L G ∨ (167 ∉ L ∧ 168 ∉ L ∧ G 46 9 = ((64 : Nat) : Int) ∧ G 46 10 = ((65 : Nat) : Int))
/-- the class's cache of a survey -/
def cSuv (L : List Nat) (m : Nat) (S : Nat → Nat) (I : Nat → Nat → Nat) (lo hi mk : Nat → Nat) (G : Nat → Nat → Int) : Prop := (G 46 13 = 0 ∨ G 46 13 = 1) ∧ (G 46 13 = 1 → cRW L G ∧ zSu (zWc m S I lo hi mk) (zVc m S I mk) 24057 G)
theorem x_SL2 {a b : Nat} (hL : x_SL L) : x_SL (L ++ [a] ++ [b]) := fun i h1 h2 => List.mem_append_left _ (List.mem_append_left _ (hL i h1 h2))
theorem x_SL1 {a : Nat} (hL : x_SL L) : x_SL (L ++ [a]) := fun i h1 h2 => List.mem_append_left _ (hL i h1 h2)
theorem FR.nw {T : List Nat} {G G1 : Nat → Nat → Int} {q : Nat} (h : FR T G G1) (hq : q ∈ T) : FR T G (x_nwG G1 q) := fun i hi => (x_nwG_ne (fun e : i = q => hi (e ▸ hq))).trans (h i hi)
theorem c_an_survey {mc ms : Nat} {G : Nat → Nat → Int} {Q : x_Q} (hL : x_SL L) (hF : x_Fin xFL G) (hE : cEq m S I G) (hb : cBd lo hi mk G) (hA : cAr L G) (hU : cSuv L m S I lo hi mk G) (hcap : cRW L G ∨ (2 ≤ mc ∧ 13122 ≤ ms))
    (fin : ∀ L' G', (L' = L ∨ L' = L ++ [167] ++ [168]) → zSY L' G m S I lo hi mk G' → Q none L' G') :
    CM yX1_survey mX1_survey 7 mc ms [vR 46, vR 4] L G Q := by
  refine Ct.of_X (μ := mX1_survey) rfl rfl (by decide) (fun h => by cases h) (Nat.le_of_ble_eq_true rfl) rfl ?_
  by_cases hs : G 46 13 = 1
  · obtain ⟨hrw, hS⟩ := hU.2 hs
    refine x_aloadn (pc := 0) dX1_survey_0 rfl ?_
    refine x_getZ (pc := 1) dX1_survey_1 fl_X1_58 k_46 (hL 46 (by decide) (by decide)) ?_
    refine x_ieq (tgt := 8) (pc := 4) dX1_survey_4 (by decide) (by omega) (fun c_4 => ?_) (fun c_4 => ?_)
    · skip
      exact absurd c_4 (by omega)
    exact x_vret dX1_survey_7 rfl (fin L G (Or.inl rfl) ⟨hS, hs, hrw, FR.rf, hF⟩)
  · have hs0 : G 46 13 = 0 := by rcases hU.1 with q | q; exact q; exact absurd q hs
    rcases hA with hrw | ⟨n1, n2, n3, n4⟩
    · obtain ⟨⟨hL_167, hL_168⟩, h9, h10⟩ := id hrw
      have g9 : ∀ (a b d : Int), x_up (x_up (x_up G 46 13 a) 46 11 b) 46 12 d 46 9 = ((167 : Nat) : Int) := fun a b d => by simp [x_up]; exact h9
      have g10 : ∀ (a b d : Int), x_up (x_up (x_up G 46 13 a) 46 11 b) 46 12 d 46 10 = ((168 : Nat) : Int) := fun a b d => by simp [x_up]; exact h10
      refine x_aloadn (pc := 0) dX1_survey_0 rfl ?_
      refine x_getZ (pc := 1) dX1_survey_1 fl_X1_58 k_46 (hL 46 (by decide) (by decide)) ?_
      refine x_ieq (tgt := 8) (pc := 4) dX1_survey_4 (by decide) (by omega) (fun c_4 => ?_) (fun c_4 => ?_)
      rotate_left
      · skip
        exact absurd hs0 c_4
      refine x_aloadn (pc := 8) dX1_survey_8 rfl ?_
      refine x_iconst (pc := 9) dX1_survey_9 ?_
      refine x_putZF (pc := 10) dX1_survey_10 fp_X1_58 k_46 (hL 46 (by decide) (by decide)) (by omega) hF (fun hF => ?_)
      refine x_aloadn (pc := 13) dX1_survey_13 rfl ?_
      refine x_iconst (pc := 14) dX1_survey_14 ?_
      refine x_putIF (pc := 15) dX1_survey_15 fp_X1_50 k_46 (hL 46 (by decide) (by decide)) hF (fun hF => ?_)
      refine x_aloadn (pc := 18) dX1_survey_18 rfl ?_
      refine x_lconst (x := 0) (pc := 19) dX1_survey_19 (by decide) ?_
      refine x_putLF (pc := 20) dX1_survey_20 fp_X1_54 k_46 (hL 46 (by decide) (by decide)) hF (fun hF => ?_)
      refine x_aloadn (pc := 23) dX1_survey_23 rfl ?_
      refine x_getR (167) (pc := 24) dX1_survey_24 fl_X1_43 k_46 (hL 46 (by decide) (by decide)) (g9 _ _ _) ?_
      refine x_alen (pc := 27) dX1_survey_27 k_167 (by decide) hL_167 ?_
      refine x_sipush (pc := 28) dX1_survey_28 (by decide) ?_
      refine x_clt (tgt := 45) (pc := 31) dX1_survey_31 (by decide) (by omega) (fun c_31 => ?_) (fun c_31 => ?_)
      · skip
        exact absurd c_31 (by decide)
      refine x_aloadn (pc := 34) dX1_survey_34 rfl ?_
      refine x_getR (168) (pc := 35) dX1_survey_35 fl_X1_46 k_46 (hL 46 (by decide) (by decide)) (g10 _ _ _) ?_
      refine x_alen (pc := 38) dX1_survey_38 k_168 (by decide) hL_168 ?_
      refine x_sipush (pc := 39) dX1_survey_39 (by decide) ?_
      refine x_cge (tgt := 63) (pc := 42) dX1_survey_42 (by decide) (by omega) (fun c_42 => ?_) (fun c_42 => ?_)
      rotate_left
      · skip
        exact absurd c_42 (by decide)
      exact l_an_sv63 hL hF hE hb ⟨hrw.1, g9 _ _ _, g10 _ _ _⟩ (by simp [x_up]) (by simp [x_up]) (by simp [x_up]) (((FR.rf.up (by decide)).up (by decide)).up (by decide)) (fun G' h => fin L G' (Or.inl rfl) h)
    · have hcap := hcap.resolve_left (fun w => n1 w.1.1)
      have g9 : ∀ (a b d : Int), x_up (x_up (x_up G 46 13 a) 46 11 b) 46 12 d 46 9 = ((64 : Nat) : Int) := fun a b d => by simp [x_up]; exact n3
      refine x_aloadn (pc := 0) dX1_survey_0 rfl ?_
      refine x_getZ (pc := 1) dX1_survey_1 fl_X1_58 k_46 (hL 46 (by decide) (by decide)) ?_
      refine x_ieq (tgt := 8) (pc := 4) dX1_survey_4 (by decide) (by omega) (fun c_4 => ?_) (fun c_4 => ?_)
      rotate_left
      · skip
        exact absurd hs0 c_4
      refine x_aloadn (pc := 8) dX1_survey_8 rfl ?_
      refine x_iconst (pc := 9) dX1_survey_9 ?_
      refine x_putZF (pc := 10) dX1_survey_10 fp_X1_58 k_46 (hL 46 (by decide) (by decide)) (by omega) hF (fun hF => ?_)
      refine x_aloadn (pc := 13) dX1_survey_13 rfl ?_
      refine x_iconst (pc := 14) dX1_survey_14 ?_
      refine x_putIF (pc := 15) dX1_survey_15 fp_X1_50 k_46 (hL 46 (by decide) (by decide)) hF (fun hF => ?_)
      refine x_aloadn (pc := 18) dX1_survey_18 rfl ?_
      refine x_lconst (x := 0) (pc := 19) dX1_survey_19 (by decide) ?_
      refine x_putLF (pc := 20) dX1_survey_20 fp_X1_54 k_46 (hL 46 (by decide) (by decide)) hF (fun hF => ?_)
      refine x_aloadn (pc := 23) dX1_survey_23 rfl ?_
      refine x_getR (64) (pc := 24) dX1_survey_24 fl_X1_43 k_46 (hL 46 (by decide) (by decide)) (g9 _ _ _) ?_
      refine x_alen (pc := 27) dX1_survey_27 k_64 (by decide) (hL 64 (by decide) (by decide)) ?_
      refine x_sipush (pc := 28) dX1_survey_28 (by decide) ?_
      refine x_clt (tgt := 45) (pc := 31) dX1_survey_31 (by decide) (by omega) (fun c_31 => ?_) (fun c_31 => ?_)
      rotate_left
      · skip
        exact absurd c_31 (by decide)
      have hm : 167 ∈ L ++ [167] := List.mem_append_right _ (List.mem_singleton.mpr rfl)
      refine x_aloadn (pc := 45) dX1_survey_45 rfl ?_
      refine x_sipush (pc := 46) dX1_survey_46 (by decide) ?_
      refine x_newI (N := 6561) (q := 167) (pc := 49) dX1_survey_49 rfl (by decide) ⟨n1, by decide⟩ k_167 la_I ⟨by omega, by omega⟩ ?_
      have hF := x_FinN (q := 167) hF (fun t ht => by have := (x_FL46 t ht).2.2; omega)
      refine x_putR (pc := 51) dX1_survey_51 fp_X1_43 k_46 (x_SL1 hL 46 (by decide) (by decide)) ?_
      have hF := x_FinU (r := 46) (k := 9) (x := ((167 : Nat) : Int)) hF (fun t ht => (x_FL46 t ht).1)
      refine x_aloadn (pc := 54) dX1_survey_54 rfl ?_
      refine x_sipush (pc := 55) dX1_survey_55 (by decide) ?_
      refine x_newJ (N := 6561) (q := 168) (pc := 58) dX1_survey_58 rfl (by decide) ⟨fun w => (List.mem_append.mp w).elim n2 (fun w => absurd (List.mem_singleton.mp w) (by decide)), by decide⟩ k_168 la_J ⟨by omega, by omega⟩ ?_
      have hF := x_FinN (q := 168) hF (fun t ht => by have := (x_FL46 t ht).2.2; omega)
      refine x_putR (pc := 60) dX1_survey_60 fp_X1_46 k_46 (x_SL2 hL 46 (by decide) (by decide)) ?_
      have hF := x_FinU (r := 46) (k := 10) (x := ((168 : Nat) : Int)) hF (fun t ht => (x_FL46 t ht).2.1)
      refine l_an_sv63 (x_SL2 hL) hF hE hb ⟨⟨List.mem_append_left _ hm, List.mem_append_right _ (List.mem_singleton.mpr rfl)⟩, by simp [x_up, x_nwG], by simp [x_up, x_nwG]⟩ (by simp [x_up, x_nwG]) (by simp [x_up, x_nwG]) (by simp [x_up, x_nwG]) ?_ (fun G' h => fin _ G' (Or.inr rfl) h)
      exact ((((((FR.rf.up (by decide)).up (by decide)).up (by decide)).nw (by decide)).up (by decide)).nw (by decide)).up (by decide)
end XSX

