/-! the class: an equation is chased, graph and steps being there (2) -/
section XFV
variable {L : List Nat} {S : Nat → Nat} {I : Nat → Nat → Nat} {e q : Nat}
theorem zDb_of {D : Nat} (h : D < 1500) : (-1 ≤ ((D : Nat) : Int) ∧ ((D : Nat) : Int) < 2000) ∧ (if ((D : Nat) : Int) = -1 then (0 : Int) else 1) = 1 := ⟨⟨by omega, by omega⟩, if_neg (by omega)⟩
theorem l_ch_f173 {mc ms k n : Nat} {o3 : Option (Nat × Int)} {G0 G : Nat → Nat → Int} (hL : x_SL L) (hM : x_GM L) (hF : x_Fin xFL G) (hG : x_Fin xGL G) (he : e < 4) (h0 : zvS (zsk (zs0 S I e))) (hl : (zN (zsk (zs0 S I e)) 6000).length ≤ 1500) (hq : q = 169 + e) (hqL : q ∈ L) (hst : G 78 e = ((q : Nat) : Int)) (hgr : G 66 8 = ((173 : Nat) : Int)) (hg : cGf (zsk (zs0 S I e)) G) (hff : G 173 16 = zffs (zs0 S I e))
    (href : G 68 e = 0) (hmet : G 69 e = (((zN (zsk (zs0 S I e)) 6000).length : Nat) : Int)) (oth : cOth e G0 G) (hQ : FR (z_foS q) G0 G) :
    X mX2_follow 6 mc ms (pF1 L G0 S I e q) 173 [some (vR 66), some (vR 4), some (vI e), o3] [] L G k n := by
  have hGr := zGr_N hl
  have hdn := hg.1.2.1
  have hkq : xK q = (13, 1500) := by rw [hq]; exact k_st he
  have hq1 : 169 ≤ q ∧ q < 173 := by omega
  rcases zdn_or (s0 := zsk (zs0 S I e)) with ⟨hd, hno⟩ | ⟨D, hd, hB⟩
  · rw [hd] at hdn
    have k1 : FR [70] G (x_up G 70 e (-1)) := FR.rf.up (by decide)
    refine x_aloadn (pc := 173) dX2_follow_173 rfl ?_
    refine x_getR (70) (pc := 174) dX2_follow_174 fl_X2_22 k_66 (hL 66 (by decide) (by decide)) (f_66_3 hF) ?_
    refine x_iloadn (pc := 177) dX2_follow_177 rfl ?_
    refine x_aloadn (pc := 178) dX2_follow_178 rfl ?_
    refine x_getR (173) (pc := 179) dX2_follow_179 fl_X2_39 k_66 (hL 66 (by decide) (by decide)) hgr ?_
    refine x_cVI (pc := 182) dX2_follow_182 lk_X2_72 (c_gr_hasAnswer hL hM hdn (by omega)) k_173 ⟨by decide, rfl⟩ (hM 173 (by decide) (by decide)) (⟨by decide, by decide⟩) (Nat.le_of_ble_eq_true rfl) rfl ?_
    rintro x G' ⟨rfl, h_G⟩
    obtain rfl := h_G.symm
    refine x_ieq (tgt := 204) (pc := 185) dX2_follow_185 (by decide) (by split <;> omega) (fun c_185 => ?_) (fun c_185 => ?_)
    rotate_left
    · skip
      exact absurd (if_pos rfl) c_185
    refine x_iconst (pc := 204) dX2_follow_204 ?_
    refine x_iastH (e) (pc := 205) dX2_follow_205 k_70 (hL 70 (by decide) (by decide)) (⟨by omega, by omega, by decide⟩) hF hG (fun hF hG => ?_)
    exact l_ch_f206 hL hM hF hG he hl (by rw [k1 _ (by decide)]; exact hgr) (hg.FR k1 (by decide) (by decide) (by decide) (by decide) (by decide) (by decide) (by decide)) (by rw [k1 _ (by decide)]; exact hff) (by rw [k1 _ (by decide)]; exact href) (by rw [k1 _ (by decide)]; exact hmet) (Or.inl ⟨hd, x_up_s⟩) oth.up (hQ.up (List.mem_cons_of_mem _ (by decide)))
  · have hE := zEd_of hB
    obtain ⟨hB', hc, hm⟩ := hE.ch hl
    have hDn := (zBd0_dn hB).2
    rw [hd] at hdn
    obtain ⟨m, hmm⟩ : ∃ m, m = zml (zcb (zsk (zs0 S I e))) D D := ⟨_, rfl⟩
    rw [← hmm] at hE hc hm
    clear hmm
    have hD3 : D < 1500 := Nat.lt_of_lt_of_le hDn hl
    obtain ⟨hDb, hD2⟩ := zDb_of hD3
    have hm15 : m ≤ 1500 := Nat.le_trans hm (Nat.le_of_lt hD3)
    refine x_aloadn (pc := 173) dX2_follow_173 rfl ?_
    refine x_getR (70) (pc := 174) dX2_follow_174 fl_X2_22 k_66 (hL 66 (by decide) (by decide)) (f_66_3 hF) ?_
    refine x_iloadn (pc := 177) dX2_follow_177 rfl ?_
    refine x_aloadn (pc := 178) dX2_follow_178 rfl ?_
    refine x_getR (173) (pc := 179) dX2_follow_179 fl_X2_39 k_66 (hL 66 (by decide) (by decide)) hgr ?_
    refine x_cVI (pc := 182) dX2_follow_182 lk_X2_72 (c_gr_hasAnswer hL hM hdn hDb) k_173 ⟨by decide, rfl⟩ (hM 173 (by decide) (by decide)) (⟨by decide, by decide⟩) (Nat.le_of_ble_eq_true rfl) rfl ?_
    rintro x G' ⟨hx0, h_G⟩
    obtain rfl := h_G.symm
    rw [hD2] at hx0
    subst hx0
    refine x_ieq (tgt := 204) (pc := 185) dX2_follow_185 (by decide) (by decide) (fun c_185 => ?_) (fun c_185 => ?_)
    · skip
      exact absurd c_185 (by decide)
    refine x_aloadn (pc := 188) dX2_follow_188 rfl ?_
    refine x_getR (173) (pc := 189) dX2_follow_189 fl_X2_39 k_66 (hL 66 (by decide) (by decide)) hgr ?_
    refine x_aloadn (pc := 192) dX2_follow_192 rfl ?_
    refine x_getR (78) (pc := 193) dX2_follow_193 fl_X2_36 k_66 (hL 66 (by decide) (by decide)) (f_66_7 hF) ?_
    refine x_iloadn (pc := 196) dX2_follow_196 rfl ?_
    refine x_aald (q) _ (pc := 197) dX2_follow_197 k_78 (by decide) (hL 78 (by decide) (by decide)) (⟨rfl, by omega, by decide⟩) (hst) ?_
    refine x_cVI (pc := 198) dX2_follow_198 lk_X2_75 (c_gr_chainBack (m := m) hL hM hF hG h0 hl hg hq1 hkq hqL hd hc hm) k_173 ⟨by decide, rfl⟩ (hM 173 (by decide) (by decide)) (⟨by decide, by decide⟩) (Nat.le_of_ble_eq_true rfl) rfl ?_
    rintro x G1 ⟨hx, hsv, k0, hF, hG⟩
    refine x_goto (tgt := 205) (pc := 201) dX2_follow_201 (by decide) ?_
    refine x_iastH (e) (pc := 205) dX2_follow_205 k_70 (hL 70 (by decide) (by decide)) (⟨by omega, by omega, by decide⟩) hF hG (fun hF hG => ?_)
    have k1 : FR [70] G1 (x_up G1 70 e x) := FR.rf.up (by decide)
    have nn : ∀ r, r ∉ [174, 176, 177, 178] → (r < 169 ∨ 173 ≤ r) → r ∉ z_chS q := fun r r1 r2 w => by
      have w : r ∈ [174, 176, 177, 178, q] := w
      simp only [List.mem_cons, List.not_mem_nil, or_false] at w r1
      omega
    have mm : ∀ i, i ∈ z_chS q → i ∈ z_foS q := fun i w => by
      have w : i ∈ [174, 176, 177, 178, q] := w
      simp only [List.mem_cons, List.not_mem_nil, or_false] at w
      simp only [z_foS, z_foC, List.mem_cons, List.not_mem_nil, or_false]
      omega
    refine l_ch_f206 hL hM hF hG he hl (by rw [k1 _ (by decide), k0 _ (nn _ (by decide) (by decide))]; exact hgr) ((hg.FR k0 (nn _ (by decide) (by decide)) (nn _ (by decide) (by decide)) (nn _ (by decide) (by decide)) (nn _ (by decide) (by decide)) (nn _ (by decide) (by decide)) (nn _ (by decide) (by decide)) (nn _ (by decide) (by decide))).FR k1 (by decide) (by decide) (by decide) (by decide) (by decide) (by decide) (by decide)) (by rw [k1 _ (by decide), k0 _ (nn _ (by decide) (by decide))]; exact hff) (by rw [k1 _ (by decide), k0 _ (nn _ (by decide) (by decide))]; exact href) (by rw [k1 _ (by decide), k0 _ (nn _ (by decide) (by decide))]; exact hmet) (Or.inr ⟨D, m, hE, hm15, by rw [x_up_s]; exact hx, by rw [← hq]; exact hqL, by rw [k1 _ (by decide), k0 _ (nn _ (by decide) (by decide)), ← hq]; exact hst, fun i hi => ?_⟩) ((oth.FR k0 (nn _ (by decide) (by decide)) (nn _ (by decide) (by decide)) (nn _ (by decide) (by decide)) (nn _ (by decide) (by decide))).up) ((hQ.tr (k0.mono mm)).up (List.mem_cons_of_mem _ (by decide)))
    rw [← hq, k1 _ (by simp; omega)]
    exact hsv i hi
end XFV

