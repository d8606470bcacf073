/-! the class: whether there is a ring -/
section XHR
variable {L : List Nat} {n : Nat} {T : Nat → Int} {B : Nat → Prop} {ld : Nat → Nat}
abbrev z_hrS : List Nat := [193, 194]
abbrev pHr (L : List Nat) (G0 : Nat → Nat → Int) (n : Nat) (T : Nat → Int) (B : Nat → Prop) : x_Q := qI L fun x G' => ((x = 1 ∧ ¬ zAc n T B) ∨ (x = 0 ∧ zAc n T B)) ∧ FR z_hrS G0 G' ∧ x_Fin xFL G' ∧ x_Fin xGL G'
def cIn (n : Nat) (T : Nat → Int) (ld pr : Nat → Nat) (m : Nat) (G : Nat → Nat → Int) : Prop := ∀ q, q < n → ld q = 1 → G 193 q = ((zied T q pr m : Nat) : Int)
theorem l_gr_hr133 {Q : x_Q} {lc i : Nat} {G0 : Nat → Nat → Int} (hL : x_SL L) (hM : x_GM L) (ht : cTg n T G0) (hT : ∀ e, e < 4 * n → T e = -1 ∨ (0 ≤ T e ∧ T e < n)) (hlg : cLg n ld G0)
    (cont : ∀ (qd : Nat) (qf pr im : Nat → Nat) (G : Nat → Nat → Int) (o4 o5 : Option (Nat × Int)), i < qd → zKh n T ld i 4 qd qf pr im → cIn n T ld pr (4 * n) G → (∀ a, a < qd → G 194 a = ((qf a : Nat) : Int)) → FR z_hrS G0 G → x_Fin xFL G → x_Fin xGL G → X mX5_hasRing 1 0 0 Q 221 [some (vR 173), some (vI lc), some (vI qd), some (vI i), o4, o5] [] L G 0 0) :
    ∀ (r kk qd : Nat) (qf pr im : Nat → Nat) (G : Nat → Nat → Int) (o5 : Option (Nat × Int)), kk + r = 4 → i < qd → qd ≤ n → zKh n T ld i kk qd qf pr im → cIn n T ld pr (4 * n) G → (∀ a, a < qd → G 194 a = ((qf a : Nat) : Int)) → FR z_hrS G0 G → x_Fin xFL G → x_Fin xGL G →
    X mX5_hasRing 1 0 0 Q 140 [some (vR 173), some (vI lc), some (vI qd), some (vI i), some (vI kk), o5] [] L G 0 0 := by
  have hn := ht.2.1
  intro r
  induction r with
  | zero =>
    intro kk qd qf pr im G o5 hk hi hqn hK hI hqu hQ hF hG
    have hk : kk = 4 := by omega
    subst hk
    refine x_iload (pc := 140) dX5_hasRing_140 rfl ?_
    refine x_iconst (pc := 142) dX5_hasRing_142 ?_
    refine x_cge (tgt := 221) (pc := 143) dX5_hasRing_143 (by decide) (by omega) (fun c_143 => ?_) (fun c_143 => ?_)
    rotate_left
    · skip
      exact absurd c_143 (by decide)
    exact cont qd qf pr im G _ _ hi hK hI hqu hQ hF hG
  | succ r ih =>
    intro kk qd qf pr im G o5 hk hi hqn hK hI hqu hQ hF hG
    have ht' := ht.FR hQ (by decide) (by decide)
    have hlg' : cLg n ld G := fun k hk => by rw [hQ _ (by decide)]; exact hlg k hk
    have hx := (hK.1 i hi).1
    have hqi := hqu i hi
    have h0 := hK.pr0 hi (show kk < 4 by omega)
    have hei : 4 * ((qf i : Nat) : Int) + ((kk : Nat) : Int) = ((4 * qf i + kk : Nat) : Int) := by omega
    have hTe := ht'.2.2 (4 * qf i + kk) (by omega)
    have hle := zied_le (T := T) (q := 0) (pr := pr) (4 * n)
    rcases hT (4 * qf i + kk) (by omega) with t1 | ⟨t1, t2⟩
    · have hK2 := hK.step0 hi (show kk < 4 by omega) (fun y _ _ w => by omega)
      have hI2 : cIn n T ld (zup pr (4 * qf i + kk) 1) (4 * n) G := fun q hq hl => by
        have e := zied_up (T := T) (q := q) h0 (4 * n) (by omega)
        rw [if_neg (by omega), Nat.add_zero] at e
        rw [← e]; exact hI q hq hl
      rw [t1] at hTe
      refine x_iload (pc := 140) dX5_hasRing_140 rfl ?_
      refine x_iconst (pc := 142) dX5_hasRing_142 ?_
      refine x_cge (tgt := 221) (pc := 143) dX5_hasRing_143 (by decide) (by omega) (fun c_143 => ?_) (fun c_143 => ?_)
      · skip
        exact absurd c_143 (by omega)
      refine x_aloadn (pc := 146) dX5_hasRing_146 rfl ?_
      refine x_getR (187) (pc := 147) dX5_hasRing_147 fl_X5_32 k_173 (hM 173 (by decide) (by decide)) (f_173_5 hG) ?_
      refine x_iconst (pc := 150) dX5_hasRing_150 ?_
      refine x_aloadn (pc := 151) dX5_hasRing_151 rfl ?_
      refine x_getR (194) (pc := 152) dX5_hasRing_152 fl_X5_54 k_173 (hM 173 (by decide) (by decide)) (f_173_12 hG) ?_
      refine x_iloadn (pc := 155) dX5_hasRing_155 rfl ?_
      refine x_iald (i) (pc := 156) dX5_hasRing_156 k_194 (hM 194 (by decide) (by decide)) (⟨by omega, by omega, by decide⟩) ?_
      rw [hqi]
      refine x_imul (pc := 157) dX5_hasRing_157 ?_
      refine x_iload (pc := 158) dX5_hasRing_158 rfl ?_
      refine x_iadd (pc := 160) dX5_hasRing_160 ?_
      rw [hei]
      refine x_iald (4 * qf i + kk) (pc := 161) dX5_hasRing_161 k_187 (hM 187 (by decide) (by decide)) (⟨by omega, by omega, by decide⟩) ?_
      rw [hTe]
      refine x_istore (pc := 162) dX5_hasRing_162 (by decide) rfl ?_
      refine x_aloadn (pc := 164) dX5_hasRing_164 rfl ?_
      refine x_iload (pc := 165) dX5_hasRing_165 rfl ?_
      refine x_cVI (pc := 167) dX5_hasRing_167 lk_X5_131 (c_gr_isLeadN hL hM) k_173 ⟨by decide, rfl⟩ (hM 173 (by decide) (by decide)) (⟨by decide, by decide⟩) (Nat.le_of_ble_eq_true rfl) rfl ?_
      rintro x G' ⟨rfl, h_G⟩
      obtain rfl := h_G.symm
      refine x_ine (tgt := 176) (pc := 170) dX5_hasRing_170 (by decide) (by omega) (fun c_170 => ?_) (fun c_170 => ?_)
      · skip
        exact absurd rfl c_170
      refine x_goto (tgt := 215) (pc := 173) dX5_hasRing_173 (by decide) ?_
      refine x_iinc (pc := 215) dX5_hasRing_215 rfl (by decide) rfl ?_
      refine x_goto (tgt := 140) (pc := 218) dX5_hasRing_218 (by decide) ?_
      exact ih (kk + 1) qd qf _ im _ _ (by omega) hi hqn hK2 hI2 hqu hQ hF hG
    · obtain ⟨y, hy⟩ : ∃ y : Nat, T (4 * qf i + kk) = ((y : Nat) : Int) := ⟨(T (4 * qf i + kk)).toNat, by omega⟩
      rw [hy] at hTe t2
      have hyn : y < n := by omega
      have ezy := zied_up (T := T) (q := y) h0 (4 * n) (by omega)
      rw [if_pos hy] at ezy
      have hyl := zied_le (T := T) (q := y) (pr := pr) (4 * n)
      by_cases cl : ld y = 1
      · have hIy := hI y hyn cl
        have hdec : ((zied T y pr (4 * n) : Nat) : Int) - 1 = ((zied T y (zup pr (4 * qf i + kk) 1) (4 * n) : Nat) : Int) := by omega
        have hI2 : ∀ G', G' = x_up G 193 y ((zied T y (zup pr (4 * qf i + kk) 1) (4 * n) : Nat) : Int) → cIn n T ld (zup pr (4 * qf i + kk) 1) (4 * n) G' := fun G' hG' q hq hl => by
          rw [hG']
          by_cases c : q = y
          · rw [c, x_up_s]
          · have e := zied_up (T := T) (q := q) h0 (4 * n) (by omega)
            rw [if_neg (by omega), Nat.add_zero] at e
            rw [x_up_k c, ← e]; exact hI q hq hl
        by_cases cz : zied T y (zup pr (4 * qf i + kk) 1) (4 * n) = 0
        · obtain ⟨hK2, hqd⟩ := hK.step1 hi (show kk < 4 by omega) hyn cl hy cz
          have hqu2 : ∀ a, a < qd + 1 → x_up (x_up G 193 y ((zied T y (zup pr (4 * qf i + kk) 1) (4 * n) : Nat) : Int)) 194 qd ((y : Nat) : Int) 194 a = ((zup qf qd y a : Nat) : Int) := fun a ha => by
            by_cases w : a = qd
            · rw [w, x_up_s, zups]
            · rw [x_up_k w, x_up_ne (by decide), zupk w]; exact hqu a (by omega)
          have hI3 : cIn n T ld (zup pr (4 * qf i + kk) 1) (4 * n) (x_up (x_up G 193 y ((zied T y (zup pr (4 * qf i + kk) 1) (4 * n) : Nat) : Int)) 194 qd ((y : Nat) : Int)) := fun q hq hl => by
            rw [x_up_ne (by decide)]; exact hI2 _ rfl q hq hl
          refine x_iload (pc := 140) dX5_hasRing_140 rfl ?_
          refine x_iconst (pc := 142) dX5_hasRing_142 ?_
          refine x_cge (tgt := 221) (pc := 143) dX5_hasRing_143 (by decide) (by omega) (fun c_143 => ?_) (fun c_143 => ?_)
          · skip
            exact absurd c_143 (by omega)
          refine x_aloadn (pc := 146) dX5_hasRing_146 rfl ?_
          refine x_getR (187) (pc := 147) dX5_hasRing_147 fl_X5_32 k_173 (hM 173 (by decide) (by decide)) (f_173_5 hG) ?_
          refine x_iconst (pc := 150) dX5_hasRing_150 ?_
          refine x_aloadn (pc := 151) dX5_hasRing_151 rfl ?_
          refine x_getR (194) (pc := 152) dX5_hasRing_152 fl_X5_54 k_173 (hM 173 (by decide) (by decide)) (f_173_12 hG) ?_
          refine x_iloadn (pc := 155) dX5_hasRing_155 rfl ?_
          refine x_iald (i) (pc := 156) dX5_hasRing_156 k_194 (hM 194 (by decide) (by decide)) (⟨by omega, by omega, by decide⟩) ?_
          rw [hqi]
          refine x_imul (pc := 157) dX5_hasRing_157 ?_
          refine x_iload (pc := 158) dX5_hasRing_158 rfl ?_
          refine x_iadd (pc := 160) dX5_hasRing_160 ?_
          rw [hei]
          refine x_iald (4 * qf i + kk) (pc := 161) dX5_hasRing_161 k_187 (hM 187 (by decide) (by decide)) (⟨by omega, by omega, by decide⟩) ?_
          rw [hTe]
          refine x_istore (pc := 162) dX5_hasRing_162 (by decide) rfl ?_
          refine x_aloadn (pc := 164) dX5_hasRing_164 rfl ?_
          refine x_iload (pc := 165) dX5_hasRing_165 rfl ?_
          refine x_cVI (pc := 167) dX5_hasRing_167 lk_X5_131 (c_gr_isLeadY hL hM hF hG ht' hlg' hyn) k_173 ⟨by decide, rfl⟩ (hM 173 (by decide) (by decide)) (⟨by decide, by decide⟩) (Nat.le_of_ble_eq_true rfl) rfl ?_
          rintro x G' ⟨rfl, h_G⟩
          obtain rfl := h_G.symm
          rw [cl]
          refine x_ine (tgt := 176) (pc := 170) dX5_hasRing_170 (by decide) (by omega) (fun c_170 => ?_) (fun c_170 => ?_)
          rotate_left
          · skip
            exact absurd c_170 (by decide)
          refine x_aloadn (pc := 176) dX5_hasRing_176 rfl ?_
          refine x_getR (193) (pc := 177) dX5_hasRing_177 fl_X5_51 k_173 (hM 173 (by decide) (by decide)) (f_173_11 hG) ?_
          refine x_iload (pc := 180) dX5_hasRing_180 rfl ?_
          refine x_dup2 (pc := 182) dX5_hasRing_182 (fun h => by cases h) (fun h => by cases h) ?_
          refine x_iald (y) (pc := 183) dX5_hasRing_183 k_193 (hM 193 (by decide) (by decide)) (⟨by omega, by omega, by decide⟩) ?_
          rw [hIy]
          refine x_iconst (pc := 184) dX5_hasRing_184 ?_
          refine x_isub (pc := 185) dX5_hasRing_185 ?_
          rw [hdec]
          refine x_iastH (y) (pc := 186) dX5_hasRing_186 k_193 (hM 193 (by decide) (by decide)) (⟨by omega, by omega, by decide⟩) hF hG (fun hF hG => ?_)
          refine x_aloadn (pc := 187) dX5_hasRing_187 rfl ?_
          refine x_getR (193) (pc := 188) dX5_hasRing_188 fl_X5_51 k_173 (hM 173 (by decide) (by decide)) (f_173_11 hG) ?_
          refine x_iload (pc := 191) dX5_hasRing_191 rfl ?_
          refine x_iald (y) (pc := 193) dX5_hasRing_193 k_193 (hM 193 (by decide) (by decide)) (⟨by omega, by omega, by decide⟩) ?_
          rw [x_up_s]
          refine x_ine (tgt := 215) (pc := 194) dX5_hasRing_194 (by decide) (by omega) (fun c_194 => ?_) (fun c_194 => ?_)
          · skip
            omega
          refine x_iloadn (pc := 197) dX5_hasRing_197 rfl ?_
          refine x_sipush (pc := 198) dX5_hasRing_198 (by decide) ?_
          refine x_cge (tgt := 215) (pc := 201) dX5_hasRing_201 (by decide) (by omega) (fun c_201 => ?_) (fun c_201 => ?_)
          · skip
            exact absurd c_201 (by omega)
          refine x_aloadn (pc := 204) dX5_hasRing_204 rfl ?_
          refine x_getR (194) (pc := 205) dX5_hasRing_205 fl_X5_54 k_173 (hM 173 (by decide) (by decide)) (f_173_12 hG) ?_
          refine x_iloadn (pc := 208) dX5_hasRing_208 rfl ?_
          refine x_iload (pc := 209) dX5_hasRing_209 rfl ?_
          refine x_iastH (qd) (pc := 211) dX5_hasRing_211 k_194 (hM 194 (by decide) (by decide)) (⟨by omega, by omega, by decide⟩) hF hG (fun hF hG => ?_)
          refine x_iinc (pc := 212) dX5_hasRing_212 rfl (by decide) rfl ?_
          refine x_iinc (pc := 215) dX5_hasRing_215 rfl (by decide) rfl ?_
          refine x_goto (tgt := 140) (pc := 218) dX5_hasRing_218 (by decide) ?_
          exact ih (kk + 1) (qd + 1) (zup qf qd y) _ _ _ _ (by omega) (by omega) (by omega) hK2 hI3 hqu2 ((hQ.up (by decide)).up (by decide)) hF hG
        · have hK2 := hK.step0 hi (show kk < 4 by omega) (fun y' _ _ w => by
            have e : y' = y := by omega
            rw [e]; exact cz)
          refine x_iload (pc := 140) dX5_hasRing_140 rfl ?_
          refine x_iconst (pc := 142) dX5_hasRing_142 ?_
          refine x_cge (tgt := 221) (pc := 143) dX5_hasRing_143 (by decide) (by omega) (fun c_143 => ?_) (fun c_143 => ?_)
          · skip
            exact absurd c_143 (by omega)
          refine x_aloadn (pc := 146) dX5_hasRing_146 rfl ?_
          refine x_getR (187) (pc := 147) dX5_hasRing_147 fl_X5_32 k_173 (hM 173 (by decide) (by decide)) (f_173_5 hG) ?_
          refine x_iconst (pc := 150) dX5_hasRing_150 ?_
          refine x_aloadn (pc := 151) dX5_hasRing_151 rfl ?_
          refine x_getR (194) (pc := 152) dX5_hasRing_152 fl_X5_54 k_173 (hM 173 (by decide) (by decide)) (f_173_12 hG) ?_
          refine x_iloadn (pc := 155) dX5_hasRing_155 rfl ?_
          refine x_iald (i) (pc := 156) dX5_hasRing_156 k_194 (hM 194 (by decide) (by decide)) (⟨by omega, by omega, by decide⟩) ?_
          rw [hqi]
          refine x_imul (pc := 157) dX5_hasRing_157 ?_
          refine x_iload (pc := 158) dX5_hasRing_158 rfl ?_
          refine x_iadd (pc := 160) dX5_hasRing_160 ?_
          rw [hei]
          refine x_iald (4 * qf i + kk) (pc := 161) dX5_hasRing_161 k_187 (hM 187 (by decide) (by decide)) (⟨by omega, by omega, by decide⟩) ?_
          rw [hTe]
          refine x_istore (pc := 162) dX5_hasRing_162 (by decide) rfl ?_
          refine x_aloadn (pc := 164) dX5_hasRing_164 rfl ?_
          refine x_iload (pc := 165) dX5_hasRing_165 rfl ?_
          refine x_cVI (pc := 167) dX5_hasRing_167 lk_X5_131 (c_gr_isLeadY hL hM hF hG ht' hlg' hyn) k_173 ⟨by decide, rfl⟩ (hM 173 (by decide) (by decide)) (⟨by decide, by decide⟩) (Nat.le_of_ble_eq_true rfl) rfl ?_
          rintro x G' ⟨rfl, h_G⟩
          obtain rfl := h_G.symm
          rw [cl]
          refine x_ine (tgt := 176) (pc := 170) dX5_hasRing_170 (by decide) (by omega) (fun c_170 => ?_) (fun c_170 => ?_)
          rotate_left
          · skip
            exact absurd c_170 (by decide)
          refine x_aloadn (pc := 176) dX5_hasRing_176 rfl ?_
          refine x_getR (193) (pc := 177) dX5_hasRing_177 fl_X5_51 k_173 (hM 173 (by decide) (by decide)) (f_173_11 hG) ?_
          refine x_iload (pc := 180) dX5_hasRing_180 rfl ?_
          refine x_dup2 (pc := 182) dX5_hasRing_182 (fun h => by cases h) (fun h => by cases h) ?_
          refine x_iald (y) (pc := 183) dX5_hasRing_183 k_193 (hM 193 (by decide) (by decide)) (⟨by omega, by omega, by decide⟩) ?_
          rw [hIy]
          refine x_iconst (pc := 184) dX5_hasRing_184 ?_
          refine x_isub (pc := 185) dX5_hasRing_185 ?_
          rw [hdec]
          refine x_iastH (y) (pc := 186) dX5_hasRing_186 k_193 (hM 193 (by decide) (by decide)) (⟨by omega, by omega, by decide⟩) hF hG (fun hF hG => ?_)
          refine x_aloadn (pc := 187) dX5_hasRing_187 rfl ?_
          refine x_getR (193) (pc := 188) dX5_hasRing_188 fl_X5_51 k_173 (hM 173 (by decide) (by decide)) (f_173_11 hG) ?_
          refine x_iload (pc := 191) dX5_hasRing_191 rfl ?_
          refine x_iald (y) (pc := 193) dX5_hasRing_193 k_193 (hM 193 (by decide) (by decide)) (⟨by omega, by omega, by decide⟩) ?_
          rw [x_up_s]
          refine x_ine (tgt := 215) (pc := 194) dX5_hasRing_194 (by decide) (by omega) (fun c_194 => ?_) (fun c_194 => ?_)
          rotate_left
          · skip
            exact absurd (by omega) cz
          refine x_iinc (pc := 215) dX5_hasRing_215 rfl (by decide) rfl ?_
          refine x_goto (tgt := 140) (pc := 218) dX5_hasRing_218 (by decide) ?_
          exact ih (kk + 1) qd qf _ im _ _ (by omega) hi hqn hK2 (hI2 _ rfl) (fun a ha => by rw [x_up_ne (by decide)]; exact hqu a ha) (hQ.up (by decide)) hF hG
      · have l0 := (hlg' y hyn).2
        have c0 : ld y = 0 := by omega
        have hK2 := hK.step0 hi (show kk < 4 by omega) (fun y' _ w1 w => by
          have e : y' = y := by omega
          rw [e] at w1; exact absurd w1 cl)
        have hI2 : cIn n T ld (zup pr (4 * qf i + kk) 1) (4 * n) G := fun q hq hl => by
          have e := zied_up (T := T) (q := q) h0 (4 * n) (by omega)
          rw [if_neg (fun w => by
            have e : q = y := by omega
            rw [e] at hl; exact absurd hl cl), Nat.add_zero] at e
          rw [← e]; exact hI q hq hl
        refine x_iload (pc := 140) dX5_hasRing_140 rfl ?_
        refine x_iconst (pc := 142) dX5_hasRing_142 ?_
        refine x_cge (tgt := 221) (pc := 143) dX5_hasRing_143 (by decide) (by omega) (fun c_143 => ?_) (fun c_143 => ?_)
        · skip
          exact absurd c_143 (by omega)
        refine x_aloadn (pc := 146) dX5_hasRing_146 rfl ?_
        refine x_getR (187) (pc := 147) dX5_hasRing_147 fl_X5_32 k_173 (hM 173 (by decide) (by decide)) (f_173_5 hG) ?_
        refine x_iconst (pc := 150) dX5_hasRing_150 ?_
        refine x_aloadn (pc := 151) dX5_hasRing_151 rfl ?_
        refine x_getR (194) (pc := 152) dX5_hasRing_152 fl_X5_54 k_173 (hM 173 (by decide) (by decide)) (f_173_12 hG) ?_
        refine x_iloadn (pc := 155) dX5_hasRing_155 rfl ?_
        refine x_iald (i) (pc := 156) dX5_hasRing_156 k_194 (hM 194 (by decide) (by decide)) (⟨by omega, by omega, by decide⟩) ?_
        rw [hqi]
        refine x_imul (pc := 157) dX5_hasRing_157 ?_
        refine x_iload (pc := 158) dX5_hasRing_158 rfl ?_
        refine x_iadd (pc := 160) dX5_hasRing_160 ?_
        rw [hei]
        refine x_iald (4 * qf i + kk) (pc := 161) dX5_hasRing_161 k_187 (hM 187 (by decide) (by decide)) (⟨by omega, by omega, by decide⟩) ?_
        rw [hTe]
        refine x_istore (pc := 162) dX5_hasRing_162 (by decide) rfl ?_
        refine x_aloadn (pc := 164) dX5_hasRing_164 rfl ?_
        refine x_iload (pc := 165) dX5_hasRing_165 rfl ?_
        refine x_cVI (pc := 167) dX5_hasRing_167 lk_X5_131 (c_gr_isLeadY hL hM hF hG ht' hlg' hyn) k_173 ⟨by decide, rfl⟩ (hM 173 (by decide) (by decide)) (⟨by decide, by decide⟩) (Nat.le_of_ble_eq_true rfl) rfl ?_
        rintro x G' ⟨rfl, h_G⟩
        obtain rfl := h_G.symm
        rw [c0]
        refine x_ine (tgt := 176) (pc := 170) dX5_hasRing_170 (by decide) (by omega) (fun c_170 => ?_) (fun c_170 => ?_)
        · skip
          exact absurd rfl c_170
        refine x_goto (tgt := 215) (pc := 173) dX5_hasRing_173 (by decide) ?_
        refine x_iinc (pc := 215) dX5_hasRing_215 rfl (by decide) rfl ?_
        refine x_goto (tgt := 140) (pc := 218) dX5_hasRing_218 (by decide) ?_
        exact ih (kk + 1) qd qf _ im _ _ (by omega) hi hqn hK2 hI2 hqu hQ hF hG
theorem zKh.le {i kk qd : Nat} {qf pr im : Nat → Nat} (h : zKh n T ld i kk qd qf pr im) : qd ≤ n := by
  rw [← h.2.2.2.2.2.2.1]; exact zhn_le n
theorem l_gr_hr125 {G0 : Nat → Nat → Int} (hL : x_SL L) (hM : x_GM L) (ht : cTg n T G0) (hT : ∀ e, e < 4 * n → T e = -1 ∨ (0 ≤ T e ∧ T e < n)) (hlg : cLg n ld G0) (hld : ∀ k, k < n → (ld k = 1 ↔ zLe n T B k)) :
    ∀ (r i qd : Nat) (qf pr im : Nat → Nat) (G : Nat → Nat → Int) (o4 o5 : Option (Nat × Int)), i + r = n → zKh n T ld i 0 qd qf pr im → cIn n T ld pr (4 * n) G → (∀ a, a < qd → G 194 a = ((qf a : Nat) : Int)) → FR z_hrS G0 G → x_Fin xFL G → x_Fin xGL G →
    X mX5_hasRing 1 0 0 (pHr L G0 n T B) 125 [some (vR 173), some (vI ((zhn ld n : Nat) : Int)), some (vI qd), some (vI i), o4, o5] [] L G 0 0 := by
  have hn := ht.2.1
  have hzl := zhn_le (t := ld) n
  have fin : ∀ (i qd : Nat) (qf pr im : Nat → Nat) (G : Nat → Nat → Int) (o4 o5 : Option (Nat × Int)), qd ≤ i → i ≤ n → zKh n T ld i 0 qd qf pr im → FR z_hrS G0 G → x_Fin xFL G → x_Fin xGL G →
      X mX5_hasRing 1 0 0 (pHr L G0 n T B) 125 [some (vR 173), some (vI ((zhn ld n : Nat) : Int)), some (vI qd), some (vI i), o4, o5] [] L G 0 0 := by
    intro i qd qf pr im G o4 o5 hiq hin hK hQ hF hG
    obtain ⟨f1, f2⟩ := hK.fin hiq hld (fun k hk => (hlg k hk).2)
    refine x_iloadn (pc := 125) dX5_hasRing_125 rfl ?_
    refine x_sipush (pc := 126) dX5_hasRing_126 (by decide) ?_
    refine x_cge (tgt := 227) (pc := 129) dX5_hasRing_129 (by decide) (by omega) (fun c_129 => ?_) (fun c_129 => ?_)
    · skip
      refine x_iloadn (pc := 227) dX5_hasRing_227 rfl ?_
      refine x_iloadn (pc := 228) dX5_hasRing_228 rfl ?_
      refine x_cge (tgt := 236) (pc := 229) dX5_hasRing_229 (by decide) (by omega) (fun c_229 => ?_) (fun c_229 => ?_)
      · skip
        refine x_iconst (pc := 236) dX5_hasRing_236 ?_
        refine x_rZ (pc := 237) dX5_hasRing_237 rfl (by omega) ?_
        first
        | exact ⟨Or.inl ⟨rfl, f1 (by omega)⟩, hQ, hF, hG⟩
        | exact ⟨Or.inr ⟨rfl, f2 (by omega)⟩, hQ, hF, hG⟩
      · skip
        refine x_iconst (pc := 232) dX5_hasRing_232 ?_
        refine x_goto (tgt := 237) (pc := 233) dX5_hasRing_233 (by decide) ?_
        refine x_rZ (pc := 237) dX5_hasRing_237 rfl (by omega) ?_
        first
        | exact ⟨Or.inl ⟨rfl, f1 (by omega)⟩, hQ, hF, hG⟩
        | exact ⟨Or.inr ⟨rfl, f2 (by omega)⟩, hQ, hF, hG⟩
    · skip
      refine x_iloadn (pc := 132) dX5_hasRing_132 rfl ?_
      refine x_iloadn (pc := 133) dX5_hasRing_133 rfl ?_
      refine x_cge (tgt := 227) (pc := 134) dX5_hasRing_134 (by decide) (by omega) (fun c_134 => ?_) (fun c_134 => ?_)
      rotate_left
      · skip
        exact absurd c_134 (by omega)
      refine x_iloadn (pc := 227) dX5_hasRing_227 rfl ?_
      refine x_iloadn (pc := 228) dX5_hasRing_228 rfl ?_
      refine x_cge (tgt := 236) (pc := 229) dX5_hasRing_229 (by decide) (by omega) (fun c_229 => ?_) (fun c_229 => ?_)
      · skip
        refine x_iconst (pc := 236) dX5_hasRing_236 ?_
        refine x_rZ (pc := 237) dX5_hasRing_237 rfl (by omega) ?_
        first
        | exact ⟨Or.inl ⟨rfl, f1 (by omega)⟩, hQ, hF, hG⟩
        | exact ⟨Or.inr ⟨rfl, f2 (by omega)⟩, hQ, hF, hG⟩
      · skip
        refine x_iconst (pc := 232) dX5_hasRing_232 ?_
        refine x_goto (tgt := 237) (pc := 233) dX5_hasRing_233 (by decide) ?_
        refine x_rZ (pc := 237) dX5_hasRing_237 rfl (by omega) ?_
        first
        | exact ⟨Or.inl ⟨rfl, f1 (by omega)⟩, hQ, hF, hG⟩
        | exact ⟨Or.inr ⟨rfl, f2 (by omega)⟩, hQ, hF, hG⟩
  intro r
  induction r with
  | zero =>
    intro i qd qf pr im G o4 o5 hi hK hI hqu hQ hF hG
    have := hK.le
    exact fin i qd qf pr im G o4 o5 (by omega) (by omega) hK hQ hF hG
  | succ r ih =>
    intro i qd qf pr im G o4 o5 hi hK hI hqu hQ hF hG
    have hqn := hK.le
    by_cases c : qd ≤ i
    · exact fin i qd qf pr im G o4 o5 c (by omega) hK hQ hF hG
    · skip
      refine x_iloadn (pc := 125) dX5_hasRing_125 rfl ?_
      refine x_sipush (pc := 126) dX5_hasRing_126 (by decide) ?_
      refine x_cge (tgt := 227) (pc := 129) dX5_hasRing_129 (by decide) (by omega) (fun c_129 => ?_) (fun c_129 => ?_)
      · skip
        exact absurd c_129 (by omega)
      refine x_iloadn (pc := 132) dX5_hasRing_132 rfl ?_
      refine x_iloadn (pc := 133) dX5_hasRing_133 rfl ?_
      refine x_cge (tgt := 227) (pc := 134) dX5_hasRing_134 (by decide) (by omega) (fun c_134 => ?_) (fun c_134 => ?_)
      · skip
        exact absurd c_134 (by omega)
      refine x_iconst (pc := 137) dX5_hasRing_137 ?_
      refine x_istore (pc := 138) dX5_hasRing_138 (by decide) rfl ?_
      refine l_gr_hr133 hL hM ht hT hlg (fun qd2 qf2 pr2 im2 G2 o4 o5 b1 b2 b3 b4 b5 b6 b7 => ?_) 4 0 qd qf pr im G _ (Nat.zero_add _) (by omega) hqn hK hI hqu hQ hF hG
      refine x_iinc (pc := 221) dX5_hasRing_221 rfl (by decide) rfl ?_
      refine x_goto (tgt := 125) (pc := 224) dX5_hasRing_224 (by decide) ?_
      exact ih (i + 1) qd2 qf2 pr2 im2 G2 _ _ (by omega) b2.next b3 b4 b5 b6 b7
theorem l_gr_hr75 {G0 : Nat → Nat → Int} (hL : x_SL L) (hM : x_GM L) (ht : cTg n T G0) (hT : ∀ e, e < 4 * n → T e = -1 ∨ (0 ≤ T e ∧ T e < n)) (hlg : cLg n ld G0) (hld : ∀ k, k < n → (ld k = 1 ↔ zLe n T B k)) :
    ∀ (r k qd : Nat) (qf im : Nat → Nat) (G : Nat → Nat → Int) (o4 o5 : Option (Nat × Int)), k + r = n → zK3 n T ld k qd qf im → cIn n T ld (fun _ => 0) (4 * n) G → (∀ a, a < qd → G 194 a = ((qf a : Nat) : Int)) → FR z_hrS G0 G → x_Fin xFL G → x_Fin xGL G →
    X mX5_hasRing 1 0 0 (pHr L G0 n T B) 75 [some (vR 173), some (vI ((zhn ld k : Nat) : Int)), some (vI qd), some (vI k), o4, o5] [] L G 0 0 := by
  have hn := ht.2.1
  intro r
  induction r with
  | zero =>
    intro k qd qf im G o4 o5 hk hK hI hqu hQ hF hG
    have hk : k = n := by omega
    subst hk
    have ht' := ht.FR hQ (by decide) (by decide)
    refine x_iloadn (pc := 75) dX5_hasRing_75 rfl ?_
    refine x_aloadn (pc := 76) dX5_hasRing_76 rfl ?_
    refine x_getI (pc := 77) dX5_hasRing_77 fl_X5_57 k_173 (hM 173 (by decide) (by decide)) ?_
    rw [ht'.1]
    refine x_cge (tgt := 123) (pc := 80) dX5_hasRing_80 (by decide) (by omega) (fun c_80 => ?_) (fun c_80 => ?_)
    rotate_left
    · skip
      exact absurd c_80 (by omega)
    refine x_iconst (pc := 123) dX5_hasRing_123 ?_
    refine x_istoren (pc := 124) dX5_hasRing_124 rfl (by decide) rfl ?_
    exact l_gr_hr125 hL hM ht hT hlg hld k 0 qd qf _ im G _ _ (Nat.zero_add _) hK.kh hI hqu hQ hF hG
  | succ r ih =>
    intro k qd qf im G o4 o5 hk hK hI hqu hQ hF hG
    have ht' := ht.FR hQ (by decide) (by decide)
    have hlk : G 192 k = ((ld k : Nat) : Int) := by rw [hQ _ (by decide)]; exact (hlg k (by omega)).1
    have hl1 := (hlg k (by omega)).2
    have hzs : zhn ld (k + 1) = zhn ld k + (if ld k = 0 then 0 else 1) := rfl
    by_cases cl : ld k = 1
    · have hIk := hI k (by omega) cl
      have hzb := zied_le (T := T) (q := k) (pr := fun _ => 0) (4 * n)
      have ihx := ih (k + 1)
      rw [hzs, if_neg (by omega)] at ihx
      rw [cl] at hlk
      by_cases cz : zied T k (fun _ => 0) (4 * n) = 0
      · obtain ⟨hK2, hqd⟩ := hK.push (show k < n by omega) cl cz
        rw [cz] at hIk
        have hqu2 : ∀ a, a < qd + 1 → x_up G 194 qd ((k : Nat) : Int) 194 a = ((zup qf qd k a : Nat) : Int) := fun a ha => by
          by_cases w : a = qd
          · rw [w, x_up_s, zups]
          · rw [x_up_k w, zupk w]; exact hqu a (by omega)
        refine x_iloadn (pc := 75) dX5_hasRing_75 rfl ?_
        refine x_aloadn (pc := 76) dX5_hasRing_76 rfl ?_
        refine x_getI (pc := 77) dX5_hasRing_77 fl_X5_57 k_173 (hM 173 (by decide) (by decide)) ?_
        rw [ht'.1]
        refine x_cge (tgt := 123) (pc := 80) dX5_hasRing_80 (by decide) (by omega) (fun c_80 => ?_) (fun c_80 => ?_)
        · skip
          exact absurd c_80 (by omega)
        refine x_aloadn (pc := 83) dX5_hasRing_83 rfl ?_
        refine x_getR (192) (pc := 84) dX5_hasRing_84 fl_X5_48 k_173 (hM 173 (by decide) (by decide)) (f_173_10 hG) ?_
        refine x_iloadn (pc := 87) dX5_hasRing_87 rfl ?_
        refine x_zald (k) (pc := 88) dX5_hasRing_88 k_192 (hM 192 (by decide) (by decide)) (⟨by omega, by omega, by decide⟩) ?_
        rw [hlk]
        refine x_ine (tgt := 95) (pc := 89) dX5_hasRing_89 (by decide) (by omega) (fun c_89 => ?_) (fun c_89 => ?_)
        rotate_left
        · skip
          exact absurd c_89 (by decide)
        refine x_iinc (pc := 95) dX5_hasRing_95 rfl (by decide) rfl ?_
        refine x_aloadn (pc := 98) dX5_hasRing_98 rfl ?_
        refine x_getR (193) (pc := 99) dX5_hasRing_99 fl_X5_51 k_173 (hM 173 (by decide) (by decide)) (f_173_11 hG) ?_
        refine x_iloadn (pc := 102) dX5_hasRing_102 rfl ?_
        refine x_iald (k) (pc := 103) dX5_hasRing_103 k_193 (hM 193 (by decide) (by decide)) (⟨by omega, by omega, by decide⟩) ?_
        rw [hIk]
        refine x_ine (tgt := 117) (pc := 104) dX5_hasRing_104 (by decide) (by omega) (fun c_104 => ?_) (fun c_104 => ?_)
        · skip
          exact absurd rfl c_104
        refine x_aloadn (pc := 107) dX5_hasRing_107 rfl ?_
        refine x_getR (194) (pc := 108) dX5_hasRing_108 fl_X5_54 k_173 (hM 173 (by decide) (by decide)) (f_173_12 hG) ?_
        refine x_iloadn (pc := 111) dX5_hasRing_111 rfl ?_
        refine x_iloadn (pc := 112) dX5_hasRing_112 rfl ?_
        refine x_iastH (qd) (pc := 113) dX5_hasRing_113 k_194 (hM 194 (by decide) (by decide)) (⟨by omega, by omega, by decide⟩) hF hG (fun hF hG => ?_)
        refine x_iinc (pc := 114) dX5_hasRing_114 rfl (by decide) rfl ?_
        refine x_iinc (pc := 117) dX5_hasRing_117 rfl (by decide) rfl ?_
        refine x_goto (tgt := 75) (pc := 120) dX5_hasRing_120 (by decide) ?_
        exact ihx (qd + 1) _ _ _ _ _ (by omega) hK2 (fun q hq hl => by rw [x_up_ne (by decide)]; exact hI q hq hl) hqu2 (hQ.up (by decide)) hF hG
      · have hK2 := hK.skip (fun w => cz w.2)
        refine x_iloadn (pc := 75) dX5_hasRing_75 rfl ?_
        refine x_aloadn (pc := 76) dX5_hasRing_76 rfl ?_
        refine x_getI (pc := 77) dX5_hasRing_77 fl_X5_57 k_173 (hM 173 (by decide) (by decide)) ?_
        rw [ht'.1]
        refine x_cge (tgt := 123) (pc := 80) dX5_hasRing_80 (by decide) (by omega) (fun c_80 => ?_) (fun c_80 => ?_)
        · skip
          exact absurd c_80 (by omega)
        refine x_aloadn (pc := 83) dX5_hasRing_83 rfl ?_
        refine x_getR (192) (pc := 84) dX5_hasRing_84 fl_X5_48 k_173 (hM 173 (by decide) (by decide)) (f_173_10 hG) ?_
        refine x_iloadn (pc := 87) dX5_hasRing_87 rfl ?_
        refine x_zald (k) (pc := 88) dX5_hasRing_88 k_192 (hM 192 (by decide) (by decide)) (⟨by omega, by omega, by decide⟩) ?_
        rw [hlk]
        refine x_ine (tgt := 95) (pc := 89) dX5_hasRing_89 (by decide) (by omega) (fun c_89 => ?_) (fun c_89 => ?_)
        rotate_left
        · skip
          exact absurd c_89 (by decide)
        refine x_iinc (pc := 95) dX5_hasRing_95 rfl (by decide) rfl ?_
        refine x_aloadn (pc := 98) dX5_hasRing_98 rfl ?_
        refine x_getR (193) (pc := 99) dX5_hasRing_99 fl_X5_51 k_173 (hM 173 (by decide) (by decide)) (f_173_11 hG) ?_
        refine x_iloadn (pc := 102) dX5_hasRing_102 rfl ?_
        refine x_iald (k) (pc := 103) dX5_hasRing_103 k_193 (hM 193 (by decide) (by decide)) (⟨by omega, by omega, by decide⟩) ?_
        rw [hIk]
        refine x_ine (tgt := 117) (pc := 104) dX5_hasRing_104 (by decide) (by omega) (fun c_104 => ?_) (fun c_104 => ?_)
        rotate_left
        · skip
          exact absurd (by omega) cz
        refine x_iinc (pc := 117) dX5_hasRing_117 rfl (by decide) rfl ?_
        refine x_goto (tgt := 75) (pc := 120) dX5_hasRing_120 (by decide) ?_
        exact ihx qd _ _ _ _ _ (by omega) hK2 hI hqu hQ hF hG
    · have c0 : ld k = 0 := by omega
      have hK2 := hK.skip (fun w => cl w.1)
      have ihx := ih (k + 1)
      rw [hzs, if_pos c0, Nat.add_zero] at ihx
      rw [c0] at hlk
      refine x_iloadn (pc := 75) dX5_hasRing_75 rfl ?_
      refine x_aloadn (pc := 76) dX5_hasRing_76 rfl ?_
      refine x_getI (pc := 77) dX5_hasRing_77 fl_X5_57 k_173 (hM 173 (by decide) (by decide)) ?_
      rw [ht'.1]
      refine x_cge (tgt := 123) (pc := 80) dX5_hasRing_80 (by decide) (by omega) (fun c_80 => ?_) (fun c_80 => ?_)
      · skip
        exact absurd c_80 (by omega)
      refine x_aloadn (pc := 83) dX5_hasRing_83 rfl ?_
      refine x_getR (192) (pc := 84) dX5_hasRing_84 fl_X5_48 k_173 (hM 173 (by decide) (by decide)) (f_173_10 hG) ?_
      refine x_iloadn (pc := 87) dX5_hasRing_87 rfl ?_
      refine x_zald (k) (pc := 88) dX5_hasRing_88 k_192 (hM 192 (by decide) (by decide)) (⟨by omega, by omega, by decide⟩) ?_
      rw [hlk]
      refine x_ine (tgt := 95) (pc := 89) dX5_hasRing_89 (by decide) (by omega) (fun c_89 => ?_) (fun c_89 => ?_)
      · skip
        exact absurd rfl c_89
      refine x_goto (tgt := 117) (pc := 92) dX5_hasRing_92 (by decide) ?_
      refine x_iinc (pc := 117) dX5_hasRing_117 rfl (by decide) rfl ?_
      refine x_goto (tgt := 75) (pc := 120) dX5_hasRing_120 (by decide) ?_
      exact ihx qd _ _ _ _ _ (by omega) hK2 hI hqu hQ hF hG
theorem l_gr_hr29 {G0 : Nat → Nat → Int} (hL : x_SL L) (hM : x_GM L) (ht : cTg n T G0) (hT : ∀ e, e < 4 * n → T e = -1 ∨ (0 ≤ T e ∧ T e < n)) (hlg : cLg n ld G0) (hld : ∀ k, k < n → (ld k = 1 ↔ zLe n T B k)) :
    ∀ (r e : Nat) (G : Nat → Nat → Int) (o4 o5 : Option (Nat × Int)), e + r = 4 * n → cIn n T ld (fun _ => 0) e G → FR z_hrS G0 G → x_Fin xFL G → x_Fin xGL G →
    X mX5_hasRing 1 0 0 (pHr L G0 n T B) 29 [some (vR 173), some (vI 0), some (vI 0), some (vI e), o4, o5] [] L G 0 0 := by
  have hn := ht.2.1
  intro r
  induction r with
  | zero =>
    intro e G o4 o5 he hI hQ hF hG
    have he : e = 4 * n := by omega
    subst he
    have ht' := ht.FR hQ (by decide) (by decide)
    have hK0 : zK3 n T ld 0 0 (fun _ => 0) (fun _ => 0) := ⟨fun a ha => absurd ha (Nat.not_lt_zero a), fun q hq => absurd hq (Nat.not_lt_zero q), fun a b hab hb => absurd hb (Nat.not_lt_zero b), zhn_0 n, fun q => ⟨fun w => absurd rfl w, fun ⟨a, ha, _⟩ => absurd ha (Nat.not_lt_zero a)⟩⟩
    refine x_iloadn (pc := 29) dX5_hasRing_29 rfl ?_
    refine x_iconst (pc := 30) dX5_hasRing_30 ?_
    refine x_aloadn (pc := 31) dX5_hasRing_31 rfl ?_
    refine x_getI (pc := 32) dX5_hasRing_32 fl_X5_57 k_173 (hM 173 (by decide) (by decide)) ?_
    rw [ht'.1]
    refine x_imul (pc := 35) dX5_hasRing_35 ?_
    refine x_cge (tgt := 73) (pc := 36) dX5_hasRing_36 (by decide) (by omega) (fun c_36 => ?_) (fun c_36 => ?_)
    rotate_left
    · skip
      exact absurd c_36 (by omega)
    refine x_iconst (pc := 73) dX5_hasRing_73 ?_
    refine x_istoren (pc := 74) dX5_hasRing_74 rfl (by decide) rfl ?_
    exact l_gr_hr75 hL hM ht hT hlg hld n 0 0 _ _ G _ _ (Nat.zero_add _) hK0 hI (fun a ha => absurd ha (Nat.not_lt_zero a)) hQ hF hG
  | succ r ih =>
    intro e G o4 o5 he hI hQ hF hG
    have ht' := ht.FR hQ (by decide) (by decide)
    have hlg' : cLg n ld G := fun k hk => by rw [hQ _ (by decide)]; exact hlg k hk
    have hTe := ht'.2.2 e (by omega)
    have hzs : ∀ q, zied T q (fun _ => 0) (e + 1) = zied T q (fun _ => 0) e + (if T e = ((q : Nat) : Int) ∧ (fun _ => 0) e = 0 then 1 else 0) := fun q => rfl
    rcases hT e (by omega) with t1 | ⟨t1, t2⟩
    · have hI2 : cIn n T ld (fun _ => 0) (e + 1) G := fun q hq hl => by rw [hzs, if_neg (fun w => by omega), Nat.add_zero]; exact hI q hq hl
      rw [t1] at hTe
      refine x_iloadn (pc := 29) dX5_hasRing_29 rfl ?_
      refine x_iconst (pc := 30) dX5_hasRing_30 ?_
      refine x_aloadn (pc := 31) dX5_hasRing_31 rfl ?_
      refine x_getI (pc := 32) dX5_hasRing_32 fl_X5_57 k_173 (hM 173 (by decide) (by decide)) ?_
      rw [ht'.1]
      refine x_imul (pc := 35) dX5_hasRing_35 ?_
      refine x_cge (tgt := 73) (pc := 36) dX5_hasRing_36 (by decide) (by omega) (fun c_36 => ?_) (fun c_36 => ?_)
      · skip
        exact absurd c_36 (by omega)
      refine x_aloadn (pc := 39) dX5_hasRing_39 rfl ?_
      refine x_aloadn (pc := 40) dX5_hasRing_40 rfl ?_
      refine x_getR (187) (pc := 41) dX5_hasRing_41 fl_X5_32 k_173 (hM 173 (by decide) (by decide)) (f_173_5 hG) ?_
      refine x_iloadn (pc := 44) dX5_hasRing_44 rfl ?_
      refine x_iald (e) (pc := 45) dX5_hasRing_45 k_187 (hM 187 (by decide) (by decide)) (⟨by omega, by omega, by decide⟩) ?_
      rw [hTe]
      refine x_cVI (pc := 46) dX5_hasRing_46 lk_X5_131 (c_gr_isLeadN hL hM) k_173 ⟨by decide, rfl⟩ (hM 173 (by decide) (by decide)) (⟨by decide, by decide⟩) (Nat.le_of_ble_eq_true rfl) rfl ?_
      rintro x G' ⟨rfl, h_G⟩
      obtain rfl := h_G.symm
      refine x_ieq (tgt := 67) (pc := 49) dX5_hasRing_49 (by decide) (by omega) (fun c_49 => ?_) (fun c_49 => ?_)
      rotate_left
      · skip
        exact absurd rfl c_49
      refine x_iinc (pc := 67) dX5_hasRing_67 rfl (by decide) rfl ?_
      refine x_goto (tgt := 29) (pc := 70) dX5_hasRing_70 (by decide) ?_
      exact ih (e + 1) _ _ _ (by omega) hI2 hQ hF hG
    · obtain ⟨y, hy⟩ : ∃ y : Nat, T e = ((y : Nat) : Int) := ⟨(T e).toNat, by omega⟩
      rw [hy] at hTe t2
      have hyn : y < n := by omega
      by_cases cl : ld y = 1
      · have hIy := hI y hyn cl
        have hyl := zied_le (T := T) (q := y) (pr := fun _ => 0) e
        have hI2 : cIn n T ld (fun _ => 0) (e + 1) (x_up G 193 y (((zied T y (fun _ => 0) e : Nat) : Int) + 1)) := fun q hq hl => by
          rw [hzs]
          by_cases c : q = y
          · rw [c, x_up_s, if_pos ⟨hy, rfl⟩]; rfl
          · rw [x_up_k c, if_neg (fun w => c (by have := w.1; omega)), Nat.add_zero]; exact hI q hq hl
        refine x_iloadn (pc := 29) dX5_hasRing_29 rfl ?_
        refine x_iconst (pc := 30) dX5_hasRing_30 ?_
        refine x_aloadn (pc := 31) dX5_hasRing_31 rfl ?_
        refine x_getI (pc := 32) dX5_hasRing_32 fl_X5_57 k_173 (hM 173 (by decide) (by decide)) ?_
        rw [ht'.1]
        refine x_imul (pc := 35) dX5_hasRing_35 ?_
        refine x_cge (tgt := 73) (pc := 36) dX5_hasRing_36 (by decide) (by omega) (fun c_36 => ?_) (fun c_36 => ?_)
        · skip
          exact absurd c_36 (by omega)
        refine x_aloadn (pc := 39) dX5_hasRing_39 rfl ?_
        refine x_aloadn (pc := 40) dX5_hasRing_40 rfl ?_
        refine x_getR (187) (pc := 41) dX5_hasRing_41 fl_X5_32 k_173 (hM 173 (by decide) (by decide)) (f_173_5 hG) ?_
        refine x_iloadn (pc := 44) dX5_hasRing_44 rfl ?_
        refine x_iald (e) (pc := 45) dX5_hasRing_45 k_187 (hM 187 (by decide) (by decide)) (⟨by omega, by omega, by decide⟩) ?_
        rw [hTe]
        refine x_cVI (pc := 46) dX5_hasRing_46 lk_X5_131 (c_gr_isLeadY hL hM hF hG ht' hlg' hyn) k_173 ⟨by decide, rfl⟩ (hM 173 (by decide) (by decide)) (⟨by decide, by decide⟩) (Nat.le_of_ble_eq_true rfl) rfl ?_
        rintro x G' ⟨rfl, h_G⟩
        obtain rfl := h_G.symm
        rw [cl]
        refine x_ieq (tgt := 67) (pc := 49) dX5_hasRing_49 (by decide) (by omega) (fun c_49 => ?_) (fun c_49 => ?_)
        · skip
          exact absurd c_49 (by decide)
        refine x_aloadn (pc := 52) dX5_hasRing_52 rfl ?_
        refine x_getR (193) (pc := 53) dX5_hasRing_53 fl_X5_51 k_173 (hM 173 (by decide) (by decide)) (f_173_11 hG) ?_
        refine x_aloadn (pc := 56) dX5_hasRing_56 rfl ?_
        refine x_getR (187) (pc := 57) dX5_hasRing_57 fl_X5_32 k_173 (hM 173 (by decide) (by decide)) (f_173_5 hG) ?_
        refine x_iloadn (pc := 60) dX5_hasRing_60 rfl ?_
        refine x_iald (e) (pc := 61) dX5_hasRing_61 k_187 (hM 187 (by decide) (by decide)) (⟨by omega, by omega, by decide⟩) ?_
        rw [hTe]
        refine x_dup2 (pc := 62) dX5_hasRing_62 (fun h => by cases h) (fun h => by cases h) ?_
        refine x_iald (y) (pc := 63) dX5_hasRing_63 k_193 (hM 193 (by decide) (by decide)) (⟨by omega, by omega, by decide⟩) ?_
        rw [hIy]
        refine x_iconst (pc := 64) dX5_hasRing_64 ?_
        refine x_iadd (pc := 65) dX5_hasRing_65 ?_
        refine x_iastH (y) (pc := 66) dX5_hasRing_66 k_193 (hM 193 (by decide) (by decide)) (⟨by omega, by omega, by decide⟩) hF hG (fun hF hG => ?_)
        refine x_iinc (pc := 67) dX5_hasRing_67 rfl (by decide) rfl ?_
        refine x_goto (tgt := 29) (pc := 70) dX5_hasRing_70 (by decide) ?_
        exact ih (e + 1) _ _ _ (by omega) hI2 (hQ.up (by decide)) hF hG
      · have l0 := (hlg' y hyn).2
        have c0 : ld y = 0 := by omega
        have hI2 : cIn n T ld (fun _ => 0) (e + 1) G := fun q hq hl => by
          rw [hzs, if_neg (fun w => by
            have e1 : q = y := by have := w.1; omega
            rw [e1] at hl; exact absurd hl cl), Nat.add_zero]; exact hI q hq hl
        refine x_iloadn (pc := 29) dX5_hasRing_29 rfl ?_
        refine x_iconst (pc := 30) dX5_hasRing_30 ?_
        refine x_aloadn (pc := 31) dX5_hasRing_31 rfl ?_
        refine x_getI (pc := 32) dX5_hasRing_32 fl_X5_57 k_173 (hM 173 (by decide) (by decide)) ?_
        rw [ht'.1]
        refine x_imul (pc := 35) dX5_hasRing_35 ?_
        refine x_cge (tgt := 73) (pc := 36) dX5_hasRing_36 (by decide) (by omega) (fun c_36 => ?_) (fun c_36 => ?_)
        · skip
          exact absurd c_36 (by omega)
        refine x_aloadn (pc := 39) dX5_hasRing_39 rfl ?_
        refine x_aloadn (pc := 40) dX5_hasRing_40 rfl ?_
        refine x_getR (187) (pc := 41) dX5_hasRing_41 fl_X5_32 k_173 (hM 173 (by decide) (by decide)) (f_173_5 hG) ?_
        refine x_iloadn (pc := 44) dX5_hasRing_44 rfl ?_
        refine x_iald (e) (pc := 45) dX5_hasRing_45 k_187 (hM 187 (by decide) (by decide)) (⟨by omega, by omega, by decide⟩) ?_
        rw [hTe]
        refine x_cVI (pc := 46) dX5_hasRing_46 lk_X5_131 (c_gr_isLeadY hL hM hF hG ht' hlg' hyn) k_173 ⟨by decide, rfl⟩ (hM 173 (by decide) (by decide)) (⟨by decide, by decide⟩) (Nat.le_of_ble_eq_true rfl) rfl ?_
        rintro x G' ⟨rfl, h_G⟩
        obtain rfl := h_G.symm
        rw [c0]
        refine x_ieq (tgt := 67) (pc := 49) dX5_hasRing_49 (by decide) (by omega) (fun c_49 => ?_) (fun c_49 => ?_)
        rotate_left
        · skip
          exact absurd rfl c_49
        refine x_iinc (pc := 67) dX5_hasRing_67 rfl (by decide) rfl ?_
        refine x_goto (tgt := 29) (pc := 70) dX5_hasRing_70 (by decide) ?_
        exact ih (e + 1) _ _ _ (by omega) hI2 hQ hF hG
theorem l_gr_hr6 {G0 : Nat → Nat → Int} (hL : x_SL L) (hM : x_GM L) (ht : cTg n T G0) (hT : ∀ e, e < 4 * n → T e = -1 ∨ (0 ≤ T e ∧ T e < n)) (hlg : cLg n ld G0) (hld : ∀ k, k < n → (ld k = 1 ↔ zLe n T B k)) :
    ∀ (r k : Nat) (G : Nat → Nat → Int) (o4 o5 : Option (Nat × Int)), k + r = n → (∀ q, q < k → G 193 q = 0) → FR z_hrS G0 G → x_Fin xFL G → x_Fin xGL G →
    X mX5_hasRing 1 0 0 (pHr L G0 n T B) 6 [some (vR 173), some (vI 0), some (vI 0), some (vI k), o4, o5] [] L G 0 0 := by
  have hn := ht.2.1
  intro r
  induction r with
  | zero =>
    intro k G o4 o5 hk hI hQ hF hG
    have ht' := ht.FR hQ (by decide) (by decide)
    refine x_iloadn (pc := 6) dX5_hasRing_6 rfl ?_
    refine x_aloadn (pc := 7) dX5_hasRing_7 rfl ?_
    refine x_getI (pc := 8) dX5_hasRing_8 fl_X5_57 k_173 (hM 173 (by decide) (by decide)) ?_
    rw [ht'.1]
    refine x_cge (tgt := 27) (pc := 11) dX5_hasRing_11 (by decide) (by omega) (fun c_11 => ?_) (fun c_11 => ?_)
    rotate_left
    · skip
      exact absurd c_11 (by omega)
    refine x_iconst (pc := 27) dX5_hasRing_27 ?_
    refine x_istoren (pc := 28) dX5_hasRing_28 rfl (by decide) rfl ?_
    exact l_gr_hr29 hL hM ht hT hlg hld (4 * n) 0 G _ _ (Nat.zero_add _) (fun q hq hl => by rw [hI q (by omega)]; rfl) hQ hF hG
  | succ r ih =>
    intro k G o4 o5 hk hI hQ hF hG
    have ht' := ht.FR hQ (by decide) (by decide)
    refine x_iloadn (pc := 6) dX5_hasRing_6 rfl ?_
    refine x_aloadn (pc := 7) dX5_hasRing_7 rfl ?_
    refine x_getI (pc := 8) dX5_hasRing_8 fl_X5_57 k_173 (hM 173 (by decide) (by decide)) ?_
    rw [ht'.1]
    refine x_cge (tgt := 27) (pc := 11) dX5_hasRing_11 (by decide) (by omega) (fun c_11 => ?_) (fun c_11 => ?_)
    · skip
      exact absurd c_11 (by omega)
    refine x_aloadn (pc := 14) dX5_hasRing_14 rfl ?_
    refine x_getR (193) (pc := 15) dX5_hasRing_15 fl_X5_51 k_173 (hM 173 (by decide) (by decide)) (f_173_11 hG) ?_
    refine x_iloadn (pc := 18) dX5_hasRing_18 rfl ?_
    refine x_iconst (pc := 19) dX5_hasRing_19 ?_
    refine x_iastH (k) (pc := 20) dX5_hasRing_20 k_193 (hM 193 (by decide) (by decide)) (⟨by omega, by omega, by decide⟩) hF hG (fun hF hG => ?_)
    refine x_iinc (pc := 21) dX5_hasRing_21 rfl (by decide) rfl ?_
    refine x_goto (tgt := 6) (pc := 24) dX5_hasRing_24 (by decide) ?_
    refine ih (k + 1) _ _ _ (by omega) (fun q hq => ?_) (hQ.up (by decide)) hF hG
    by_cases c : q = k
    · rw [c, x_up_s]
    · rw [x_up_k c]; exact hI q (by omega)
theorem c_gr_hasRing {G : Nat → Nat → Int} (hL : x_SL L) (hM : x_GM L) (hF : x_Fin xFL G) (hG : x_Fin xGL G) (ht : cTg n T G) (hT : ∀ e, e < 4 * n → T e = -1 ∨ (0 ≤ T e ∧ T e < n)) (hlg : cLg n ld G) (hld : ∀ k, k < n → (ld k = 1 ↔ zLe n T B k)) :
    CM yX5_hasRing mX5_hasRing 1 0 0 [vR 173] L G (pHr L G n T B) := by
  refine Ct.of_X (μ := mX5_hasRing) rfl rfl (by decide) (fun h => by cases h) (Nat.le_of_ble_eq_true rfl) rfl ?_
  refine x_iconst (pc := 0) dX5_hasRing_0 ?_
  refine x_istoren (pc := 1) dX5_hasRing_1 rfl (by decide) rfl ?_
  refine x_iconst (pc := 2) dX5_hasRing_2 ?_
  refine x_istoren (pc := 3) dX5_hasRing_3 rfl (by decide) rfl ?_
  refine x_iconst (pc := 4) dX5_hasRing_4 ?_
  refine x_istoren (pc := 5) dX5_hasRing_5 rfl (by decide) rfl ?_
  exact l_gr_hr6 hL hM ht hT hlg hld n 0 G _ _ (Nat.zero_add _) (fun q hq => absurd hq (Nat.not_lt_zero q)) FR.rf hF hG
/-- what comes free, or a ring -/
def zFq (n : Nat) (T : Nat → Int) (B : Nat → Prop) (fe : Nat → Int) (ff : Int) : Prop := ff = 1 ∨ ∃ e, e < 4 * n ∧ fe e = 1 ∧ ∃ y : Nat, T e = ((y : Nat) : Int) ∧ zLe n T B y
def zRg (n : Nat) (T : Nat → Int) (B : Nat → Prop) (fe : Nat → Int) (ff x : Int) : Prop := (x = 2 ∧ zFq n T B fe ff) ∨ (x = 1 ∧ ¬ zFq n T B fe ff ∧ ¬ zAc n T B) ∨ (x = 0 ∧ ¬ zFq n T B fe ff ∧ zAc n T B)
abbrev z_rfS : List Nat := [190, 191, 192, 194, 193]
abbrev pRf (L : List Nat) (G0 : Nat → Nat → Int) (n : Nat) (T : Nat → Int) (B : Nat → Prop) (fe : Nat → Int) (ff : Int) : x_Q := qI L fun x G' => zRg n T B fe ff x ∧ FR z_rfS G0 G' ∧ x_Fin xFL G' ∧ x_Fin xGL G'
theorem l_gr_rf {fe : Nat → Int} {ff : Int} {G0 G : Nat → Nat → Int} (hL : x_SL L) (hM : x_GM L) (hF : x_Fin xFL G) (hG : x_Fin xGL G) (ht : cTg n T G) (hT : ∀ e, e < 4 * n → T e = -1 ∨ (0 ≤ T e ∧ T e < n)) (hlg : cLg n ld G) (hld : ∀ k, k < n → (ld k = 1 ↔ zLe n T B k)) (hfe : ∀ e, e < 4 * n → G 188 e = fe e ∧ (fe e = 0 ∨ fe e = 1)) (hff : ff = 0) (hQ : FR z_rfS G0 G) :
    ∀ (r e : Nat), e + r = 4 * n → (∀ e', e' < e → ¬ (fe e' = 1 ∧ ∃ y : Nat, T e' = ((y : Nat) : Int) ∧ zLe n T B y)) →
    X mX5_ringOrFree 2 0 0 (pRf L G0 n T B fe ff) 15 [some (vR 173), some (vI e)] [] L G 0 0 := by
  have hn := ht.2.1
  intro r
  induction r with
  | zero =>
    intro e he hno
    have hnf : ¬ zFq n T B fe ff := fun w => by
      rcases w with w | ⟨e', w1, w2, w3⟩
      · omega
      · exact hno e' (by omega) ⟨w2, w3⟩
    refine x_iloadn (pc := 15) dX5_ringOrFree_15 rfl ?_
    refine x_iconst (pc := 16) dX5_ringOrFree_16 ?_
    refine x_aloadn (pc := 17) dX5_ringOrFree_17 rfl ?_
    refine x_getI (pc := 18) dX5_ringOrFree_18 fl_X5_57 k_173 (hM 173 (by decide) (by decide)) ?_
    rw [ht.1]
    refine x_imul (pc := 21) dX5_ringOrFree_21 ?_
    refine x_cge (tgt := 55) (pc := 22) dX5_ringOrFree_22 (by decide) (by omega) (fun c_22 => ?_) (fun c_22 => ?_)
    rotate_left
    · skip
      exact absurd c_22 (by omega)
    refine x_aloadn (pc := 55) dX5_ringOrFree_55 rfl ?_
    refine x_cVI (pc := 56) dX5_ringOrFree_56 lk_X5_135 (c_gr_hasRing (B := B) hL hM hF hG ht hT hlg hld) k_173 ⟨by decide, rfl⟩ (hM 173 (by decide) (by decide)) (⟨by decide, by decide⟩) (Nat.le_of_ble_eq_true rfl) rfl ?_
    rintro x G2 ⟨hx, hq, hF, hG⟩
    have hx01 : x = 0 ∨ x = 1 := hx.elim (fun w => Or.inr w.1) (fun w => Or.inl w.1)
    refine x_ieq (tgt := 66) (pc := 59) dX5_ringOrFree_59 (by decide) (by omega) (fun c_59 => ?_) (fun c_59 => ?_)
    · skip
      refine x_iconst (pc := 66) dX5_ringOrFree_66 ?_
      refine x_rI (pc := 67) dX5_ringOrFree_67 rfl ?_
      refine ⟨?_, hQ.tr (hq.mono (by decide)), hF, hG⟩
      rcases hx with ⟨w1, w2⟩ | ⟨w1, w2⟩
      · first
        | exact Or.inr (Or.inl ⟨rfl, hnf, w2⟩)
        | exact absurd w1 (by omega)
      · first
        | exact Or.inr (Or.inr ⟨rfl, hnf, w2⟩)
        | exact absurd w1 (by omega)
    · skip
      refine x_iconst (pc := 62) dX5_ringOrFree_62 ?_
      refine x_goto (tgt := 67) (pc := 63) dX5_ringOrFree_63 (by decide) ?_
      refine x_rI (pc := 67) dX5_ringOrFree_67 rfl ?_
      refine ⟨?_, hQ.tr (hq.mono (by decide)), hF, hG⟩
      rcases hx with ⟨w1, w2⟩ | ⟨w1, w2⟩
      · first
        | exact Or.inr (Or.inl ⟨rfl, hnf, w2⟩)
        | exact absurd w1 (by omega)
      · first
        | exact Or.inr (Or.inr ⟨rfl, hnf, w2⟩)
        | exact absurd w1 (by omega)
  | succ r ih =>
    intro e he hno
    obtain ⟨f1, f2⟩ := hfe e (by omega)
    have hTe := ht.2.2 e (by omega)
    have nxt : ¬ (fe e = 1 ∧ ∃ y : Nat, T e = ((y : Nat) : Int) ∧ zLe n T B y) → ∀ e', e' < e + 1 → ¬ (fe e' = 1 ∧ ∃ y : Nat, T e' = ((y : Nat) : Int) ∧ zLe n T B y) := fun w e' h' => by
      by_cases c : e' = e
      · rw [c]; exact w
      · exact hno e' (by omega)
    rcases f2 with f0 | f0
    · rw [f0] at f1
      refine x_iloadn (pc := 15) dX5_ringOrFree_15 rfl ?_
      refine x_iconst (pc := 16) dX5_ringOrFree_16 ?_
      refine x_aloadn (pc := 17) dX5_ringOrFree_17 rfl ?_
      refine x_getI (pc := 18) dX5_ringOrFree_18 fl_X5_57 k_173 (hM 173 (by decide) (by decide)) ?_
      rw [ht.1]
      refine x_imul (pc := 21) dX5_ringOrFree_21 ?_
      refine x_cge (tgt := 55) (pc := 22) dX5_ringOrFree_22 (by decide) (by omega) (fun c_22 => ?_) (fun c_22 => ?_)
      · skip
        exact absurd c_22 (by omega)
      refine x_aloadn (pc := 25) dX5_ringOrFree_25 rfl ?_
      refine x_getR (188) (pc := 26) dX5_ringOrFree_26 fl_X5_35 k_173 (hM 173 (by decide) (by decide)) (f_173_6 hG) ?_
      refine x_iloadn (pc := 29) dX5_ringOrFree_29 rfl ?_
      refine x_zald (e) (pc := 30) dX5_ringOrFree_30 k_188 (hM 188 (by decide) (by decide)) (⟨by omega, by omega, by decide⟩) ?_
      rw [f1]
      refine x_ieq (tgt := 49) (pc := 31) dX5_ringOrFree_31 (by decide) (by omega) (fun c_31 => ?_) (fun c_31 => ?_)
      rotate_left
      · skip
        exact absurd rfl c_31
      refine x_iinc (pc := 49) dX5_ringOrFree_49 rfl (by decide) rfl ?_
      refine x_goto (tgt := 15) (pc := 52) dX5_ringOrFree_52 (by decide) ?_
      exact ih (e + 1) (by omega) (nxt (fun w => by have := w.1; omega))
    · rw [f0] at f1
      rcases hT e (by omega) with t1 | ⟨t1, t2⟩
      · rw [t1] at hTe
        refine x_iloadn (pc := 15) dX5_ringOrFree_15 rfl ?_
        refine x_iconst (pc := 16) dX5_ringOrFree_16 ?_
        refine x_aloadn (pc := 17) dX5_ringOrFree_17 rfl ?_
        refine x_getI (pc := 18) dX5_ringOrFree_18 fl_X5_57 k_173 (hM 173 (by decide) (by decide)) ?_
        rw [ht.1]
        refine x_imul (pc := 21) dX5_ringOrFree_21 ?_
        refine x_cge (tgt := 55) (pc := 22) dX5_ringOrFree_22 (by decide) (by omega) (fun c_22 => ?_) (fun c_22 => ?_)
        · skip
          exact absurd c_22 (by omega)
        refine x_aloadn (pc := 25) dX5_ringOrFree_25 rfl ?_
        refine x_getR (188) (pc := 26) dX5_ringOrFree_26 fl_X5_35 k_173 (hM 173 (by decide) (by decide)) (f_173_6 hG) ?_
        refine x_iloadn (pc := 29) dX5_ringOrFree_29 rfl ?_
        refine x_zald (e) (pc := 30) dX5_ringOrFree_30 k_188 (hM 188 (by decide) (by decide)) (⟨by omega, by omega, by decide⟩) ?_
        rw [f1]
        refine x_ieq (tgt := 49) (pc := 31) dX5_ringOrFree_31 (by decide) (by omega) (fun c_31 => ?_) (fun c_31 => ?_)
        · skip
          exact absurd c_31 (by decide)
        refine x_aloadn (pc := 34) dX5_ringOrFree_34 rfl ?_
        refine x_aloadn (pc := 35) dX5_ringOrFree_35 rfl ?_
        refine x_getR (187) (pc := 36) dX5_ringOrFree_36 fl_X5_32 k_173 (hM 173 (by decide) (by decide)) (f_173_5 hG) ?_
        refine x_iloadn (pc := 39) dX5_ringOrFree_39 rfl ?_
        refine x_iald (e) (pc := 40) dX5_ringOrFree_40 k_187 (hM 187 (by decide) (by decide)) (⟨by omega, by omega, by decide⟩) ?_
        rw [hTe]
        refine x_cVI (pc := 41) dX5_ringOrFree_41 lk_X5_131 (c_gr_isLeadN hL hM) k_173 ⟨by decide, rfl⟩ (hM 173 (by decide) (by decide)) (⟨by decide, by decide⟩) (Nat.le_of_ble_eq_true rfl) rfl ?_
        rintro x G' ⟨rfl, h_G⟩
        obtain rfl := h_G.symm
        refine x_ieq (tgt := 49) (pc := 44) dX5_ringOrFree_44 (by decide) (by omega) (fun c_44 => ?_) (fun c_44 => ?_)
        rotate_left
        · skip
          exact absurd rfl c_44
        refine x_iinc (pc := 49) dX5_ringOrFree_49 rfl (by decide) rfl ?_
        refine x_goto (tgt := 15) (pc := 52) dX5_ringOrFree_52 (by decide) ?_
        exact ih (e + 1) (by omega) (nxt (fun w => by obtain ⟨_, y, w1, _⟩ := w; omega))
      · obtain ⟨y, hy⟩ : ∃ y : Nat, T e = ((y : Nat) : Int) := ⟨(T e).toNat, by omega⟩
        rw [hy] at hTe t2
        have hyn : y < n := by omega
        have hl := (hlg y hyn).2
        by_cases cl : ld y = 1
        · have hle := (hld y hyn).mp cl
          refine x_iloadn (pc := 15) dX5_ringOrFree_15 rfl ?_
          refine x_iconst (pc := 16) dX5_ringOrFree_16 ?_
          refine x_aloadn (pc := 17) dX5_ringOrFree_17 rfl ?_
          refine x_getI (pc := 18) dX5_ringOrFree_18 fl_X5_57 k_173 (hM 173 (by decide) (by decide)) ?_
          rw [ht.1]
          refine x_imul (pc := 21) dX5_ringOrFree_21 ?_
          refine x_cge (tgt := 55) (pc := 22) dX5_ringOrFree_22 (by decide) (by omega) (fun c_22 => ?_) (fun c_22 => ?_)
          · skip
            exact absurd c_22 (by omega)
          refine x_aloadn (pc := 25) dX5_ringOrFree_25 rfl ?_
          refine x_getR (188) (pc := 26) dX5_ringOrFree_26 fl_X5_35 k_173 (hM 173 (by decide) (by decide)) (f_173_6 hG) ?_
          refine x_iloadn (pc := 29) dX5_ringOrFree_29 rfl ?_
          refine x_zald (e) (pc := 30) dX5_ringOrFree_30 k_188 (hM 188 (by decide) (by decide)) (⟨by omega, by omega, by decide⟩) ?_
          rw [f1]
          refine x_ieq (tgt := 49) (pc := 31) dX5_ringOrFree_31 (by decide) (by omega) (fun c_31 => ?_) (fun c_31 => ?_)
          · skip
            exact absurd c_31 (by decide)
          refine x_aloadn (pc := 34) dX5_ringOrFree_34 rfl ?_
          refine x_aloadn (pc := 35) dX5_ringOrFree_35 rfl ?_
          refine x_getR (187) (pc := 36) dX5_ringOrFree_36 fl_X5_32 k_173 (hM 173 (by decide) (by decide)) (f_173_5 hG) ?_
          refine x_iloadn (pc := 39) dX5_ringOrFree_39 rfl ?_
          refine x_iald (e) (pc := 40) dX5_ringOrFree_40 k_187 (hM 187 (by decide) (by decide)) (⟨by omega, by omega, by decide⟩) ?_
          rw [hTe]
          refine x_cVI (pc := 41) dX5_ringOrFree_41 lk_X5_131 (c_gr_isLeadY hL hM hF hG ht hlg hyn) k_173 ⟨by decide, rfl⟩ (hM 173 (by decide) (by decide)) (⟨by decide, by decide⟩) (Nat.le_of_ble_eq_true rfl) rfl ?_
          rintro x G' ⟨rfl, h_G⟩
          obtain rfl := h_G.symm
          rw [cl]
          refine x_ieq (tgt := 49) (pc := 44) dX5_ringOrFree_44 (by decide) (by omega) (fun c_44 => ?_) (fun c_44 => ?_)
          · skip
            exact absurd c_44 (by decide)
          refine x_iconst (pc := 47) dX5_ringOrFree_47 ?_
          refine x_rI (pc := 48) dX5_ringOrFree_48 rfl ?_
          exact ⟨Or.inl ⟨rfl, Or.inr ⟨e, by omega, f0, y, hy, hle⟩⟩, hQ, hF, hG⟩
        · have c0 : ld y = 0 := by omega
          refine x_iloadn (pc := 15) dX5_ringOrFree_15 rfl ?_
          refine x_iconst (pc := 16) dX5_ringOrFree_16 ?_
          refine x_aloadn (pc := 17) dX5_ringOrFree_17 rfl ?_
          refine x_getI (pc := 18) dX5_ringOrFree_18 fl_X5_57 k_173 (hM 173 (by decide) (by decide)) ?_
          rw [ht.1]
          refine x_imul (pc := 21) dX5_ringOrFree_21 ?_
          refine x_cge (tgt := 55) (pc := 22) dX5_ringOrFree_22 (by decide) (by omega) (fun c_22 => ?_) (fun c_22 => ?_)
          · skip
            exact absurd c_22 (by omega)
          refine x_aloadn (pc := 25) dX5_ringOrFree_25 rfl ?_
          refine x_getR (188) (pc := 26) dX5_ringOrFree_26 fl_X5_35 k_173 (hM 173 (by decide) (by decide)) (f_173_6 hG) ?_
          refine x_iloadn (pc := 29) dX5_ringOrFree_29 rfl ?_
          refine x_zald (e) (pc := 30) dX5_ringOrFree_30 k_188 (hM 188 (by decide) (by decide)) (⟨by omega, by omega, by decide⟩) ?_
          rw [f1]
          refine x_ieq (tgt := 49) (pc := 31) dX5_ringOrFree_31 (by decide) (by omega) (fun c_31 => ?_) (fun c_31 => ?_)
          · skip
            exact absurd c_31 (by decide)
          refine x_aloadn (pc := 34) dX5_ringOrFree_34 rfl ?_
          refine x_aloadn (pc := 35) dX5_ringOrFree_35 rfl ?_
          refine x_getR (187) (pc := 36) dX5_ringOrFree_36 fl_X5_32 k_173 (hM 173 (by decide) (by decide)) (f_173_5 hG) ?_
          refine x_iloadn (pc := 39) dX5_ringOrFree_39 rfl ?_
          refine x_iald (e) (pc := 40) dX5_ringOrFree_40 k_187 (hM 187 (by decide) (by decide)) (⟨by omega, by omega, by decide⟩) ?_
          rw [hTe]
          refine x_cVI (pc := 41) dX5_ringOrFree_41 lk_X5_131 (c_gr_isLeadY hL hM hF hG ht hlg hyn) k_173 ⟨by decide, rfl⟩ (hM 173 (by decide) (by decide)) (⟨by decide, by decide⟩) (Nat.le_of_ble_eq_true rfl) rfl ?_
          rintro x G' ⟨rfl, h_G⟩
          obtain rfl := h_G.symm
          rw [c0]
          refine x_ieq (tgt := 49) (pc := 44) dX5_ringOrFree_44 (by decide) (by omega) (fun c_44 => ?_) (fun c_44 => ?_)
          rotate_left
          · skip
            exact absurd rfl c_44
          refine x_iinc (pc := 49) dX5_ringOrFree_49 rfl (by decide) rfl ?_
          refine x_goto (tgt := 15) (pc := 52) dX5_ringOrFree_52 (by decide) ?_
          exact ih (e + 1) (by omega) (nxt (fun w => by obtain ⟨_, y', w1, w2⟩ := w; have e1 : y' = y := (by omega); rw [e1] at w2; exact cl ((hld y hyn).mpr w2)))
theorem c_gr_ringOrFree {D : Nat} {fe : Nat → Int} {ff : Int} {G : Nat → Nat → Int} (hL : x_SL L) (hM : x_GM L) (hF : x_Fin xFL G) (hG : x_Fin xGL G) (ht : cTg n T G) (hT : ∀ e, e < 4 * n → T e = -1 ∨ (0 ≤ T e ∧ T e < n)) (hdn : G 173 14 = ((D : Nat) : Int)) (hD : D < n) (hBD : B D) (hB : ∀ x, x < n → B x → x = D) (hfe : ∀ e, e < 4 * n → G 188 e = fe e ∧ (fe e = 0 ∨ fe e = 1)) (hff : G 173 16 = ff ∧ (ff = 0 ∨ ff = 1)) :
    CM yX5_ringOrFree mX5_ringOrFree 2 0 0 [vR 173] L G (pRf L G n T B fe ff) := by
  refine Ct.of_X (μ := mX5_ringOrFree) rfl rfl (by decide) (fun h => by cases h) (Nat.le_of_ble_eq_true rfl) rfl ?_
  refine x_aloadn (pc := 0) dX5_ringOrFree_0 rfl ?_
  refine x_cVV (pc := 1) dX5_ringOrFree_1 lk_X5_128 (c_gr_markLeading hL hM hF hG ht hT hdn hD hBD hB) k_173 ⟨by decide, rfl⟩ (hM 173 (by decide) (by decide)) (⟨by decide, by decide⟩) (Nat.le_of_ble_eq_true rfl) rfl ?_
  rintro G1 ⟨⟨ld, k1, k2⟩, k3, hF, hG⟩
  have f1 : G1 173 16 = ff := by rw [k3 _ (by decide)]; exact hff.1
  refine x_aloadn (pc := 4) dX5_ringOrFree_4 rfl ?_
  refine x_getZ (pc := 5) dX5_ringOrFree_5 fl_X5_68 k_173 (hM 173 (by decide) (by decide)) ?_
  rw [f1]
  refine x_ieq (tgt := 13) (pc := 8) dX5_ringOrFree_8 (by decide) (by omega) (fun c_8 => ?_) (fun c_8 => ?_)
  · skip
    refine x_iconst (pc := 13) dX5_ringOrFree_13 ?_
    refine x_istoren (pc := 14) dX5_ringOrFree_14 rfl (by decide) rfl ?_
    exact l_gr_rf hL hM hF hG (ht.FR k3 (by decide) (by decide)) hT k1 k2 (fun e he => by rw [k3 _ (by decide)]; exact hfe e he) (by omega) (k3.mono (by decide)) (4 * n) 0 (Nat.zero_add _) (fun e' h' => absurd h' (Nat.not_lt_zero e'))
  · skip
    refine x_iconst (pc := 11) dX5_ringOrFree_11 ?_
    refine x_rI (pc := 12) dX5_ringOrFree_12 rfl ?_
    exact ⟨Or.inl ⟨rfl, Or.inl (by omega)⟩, k3.mono (by decide), hF, hG⟩
end XHR

