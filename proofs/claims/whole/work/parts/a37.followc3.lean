/-! the class: an equation is chased, graph and steps being there (3) -/
section XFU
variable {L : List Nat} {S : Nat → Nat} {I : Nat → Nat → Nat} {e q m : Nat}
theorem l_ch_f125N {mc ms k n : Nat} {o3 : Option (Nat × Int)} {G0 G : Nat → Nat → Int} (hL : x_SL L) (hM : x_GM L) (hF : x_Fin xFL G) (hG : x_Fin xGL G) (he : e < 4) (h0 : zvS (zsk (zs0 S I e))) (hl : (zN (zsk (zs0 S I e)) 6000).length ≤ 1500) (hq : q = 169 + e) (hqL : q ∈ L) (hst : G 78 e = ((q : Nat) : Int)) (hgr : G 66 8 = ((173 : Nat) : Int)) (hg : cGf (zsk (zs0 S I e)) G) (hff : G 173 16 = zffs (zs0 S I e)) (hsp : G 173 15 = 0)
    (oth : cOth e G0 G) (hQ : FR (z_foS q) G0 G) :
    X mX2_follow 6 mc ms (pF1 L G0 S I e q) 125 [some (vR 66), some (vR 4), some (vI e), o3] [] L G k n := by
  obtain ⟨ln, hln⟩ : ∃ ln, ln = (zN (zsk (zs0 S I e)) 6000).length := ⟨_, rfl⟩
  have hgs : G 173 13 = ((ln : Nat) : Int) := by rw [hln]; exact hg.1.1
  have hl5 : ln ≤ 1500 := by rw [hln]; exact hl
  have k1 : FR [68] G (x_up G 68 e 0) := FR.rf.up (by decide)
  have k2 : FR [68, 69] G (x_up (x_up G 68 e 0) 69 e ((ln : Nat) : Int)) := (k1.mono (by decide)).up (by decide)
  have fin : x_Fin xFL (x_up (x_up G 68 e 0) 69 e ((ln : Nat) : Int)) → x_Fin xGL (x_up (x_up G 68 e 0) 69 e ((ln : Nat) : Int)) → ∀ k n, X mX2_follow 6 mc ms (pF1 L G0 S I e q) 173 [some (vR 66), some (vR 4), some (vI e), o3] [] L (x_up (x_up G 68 e 0) 69 e ((ln : Nat) : Int)) k n := fun hF hG k n =>
    l_ch_f173 hL hM hF hG he h0 hl hq hqL (by rw [k2 _ (by decide)]; exact hst) (by rw [k2 _ (by decide)]; exact hgr) (hg.FR k2 (by decide) (by decide) (by decide) (by decide) (by decide) (by decide) (by decide)) (by rw [k2 _ (by decide)]; exact hff) (by rw [x_up_ne (by decide), x_up_s]) (by rw [x_up_s, hln]) oth.up.up ((hQ.up (List.mem_cons_of_mem _ (by decide))).up (List.mem_cons_of_mem _ (by decide)))
  clear hln hl h0
  refine x_aloadn (pc := 125) dX2_follow_125 rfl ?_
  refine x_getR (68) (pc := 126) dX2_follow_126 fl_X2_15 k_66 (hL 66 (by decide) (by decide)) (f_66_1 hF) ?_
  refine x_iloadn (pc := 129) dX2_follow_129 rfl ?_
  refine x_aloadn (pc := 130) dX2_follow_130 rfl ?_
  refine x_getR (173) (pc := 131) dX2_follow_131 fl_X2_39 k_66 (hL 66 (by decide) (by decide)) hgr ?_
  refine x_cVI (pc := 134) dX2_follow_134 lk_X2_64 (c_gr_isSpent hL hM hsp (Or.inl rfl)) k_173 ⟨by decide, rfl⟩ (hM 173 (by decide) (by decide)) (⟨by decide, by decide⟩) (Nat.le_of_ble_eq_true rfl) rfl ?_
  rintro x G' ⟨rfl, h_G⟩
  obtain rfl := h_G.symm
  refine x_ieq (tgt := 145) (pc := 137) dX2_follow_137 (by decide) (by omega) (fun c_137 => ?_) (fun c_137 => ?_)
  rotate_left
  · skip
    exact absurd rfl c_137
  refine x_iconst (pc := 145) dX2_follow_145 ?_
  refine x_iastH (e) (pc := 146) dX2_follow_146 k_68 (hL 68 (by decide) (by decide)) (⟨by omega, by omega, by decide⟩) hF hG (fun hF hG => ?_)
  refine x_aloadn (pc := 147) dX2_follow_147 rfl ?_
  refine x_getR (173) (pc := 148) dX2_follow_148 fl_X2_39 k_66 (hL 66 (by decide) (by decide)) ((congrFun (k1 66 (by decide)) 8).trans hgr) ?_
  refine x_cVI (pc := 151) dX2_follow_151 lk_X2_64 (c_gr_isSpent (n := 0) hL hM (by rw [x_up_ne (by decide)]; exact hsp) (Or.inl rfl)) k_173 ⟨by decide, rfl⟩ (hM 173 (by decide) (by decide)) (⟨by decide, by decide⟩) (Nat.le_of_ble_eq_true rfl) rfl ?_
  rintro x G' ⟨rfl, h_G⟩
  obtain rfl := h_G.symm
  refine x_ieq (tgt := 160) (pc := 154) dX2_follow_154 (by decide) (by omega) (fun c_154 => ?_) (fun c_154 => ?_)
  rotate_left
  · skip
    exact absurd rfl c_154
  refine x_aloadn (pc := 160) dX2_follow_160 rfl ?_
  refine x_getR (69) (pc := 161) dX2_follow_161 fl_X2_19 k_66 (hL 66 (by decide) (by decide)) (f_66_2 hF) ?_
  refine x_iloadn (pc := 164) dX2_follow_164 rfl ?_
  refine x_aloadn (pc := 165) dX2_follow_165 rfl ?_
  refine x_getR (173) (pc := 166) dX2_follow_166 fl_X2_39 k_66 (hL 66 (by decide) (by decide)) ((congrFun (k1 66 (by decide)) 8).trans hgr) ?_
  refine x_cVI (pc := 169) dX2_follow_169 lk_X2_68 (c_gr_length (n := ((ln : Nat) : Int)) hL hM (by rw [x_up_ne (by decide)]; exact hgs)) k_173 ⟨by decide, rfl⟩ (hM 173 (by decide) (by decide)) (⟨by decide, by decide⟩) (Nat.le_of_ble_eq_true rfl) rfl ?_
  rintro x G' ⟨rfl, h_G⟩
  obtain rfl := h_G.symm
  refine x_iastH (e) (pc := 172) dX2_follow_172 k_69 (hL 69 (by decide) (by decide)) (⟨by omega, by omega, by decide⟩) hF hG (fun hF hG => ?_)
  exact fin hF hG _ _
theorem l_ch_f125S {mc ms k n : Nat} {o3 : Option (Nat × Int)} {G0 G : Nat → Nat → Int} (hL : x_SL L) (hM : x_GM L) (hF : x_Fin xFL G) (hG : x_Fin xGL G) (he : e < 4) (hl : 1500 < (zN (zsk (zs0 S I e)) 6000).length) (hgr : G 66 8 = ((173 : Nat) : Int)) (hsp : G 173 15 = 1)
    (oth : cOth e G0 G) (hQ : FR (z_foS q) G0 G) :
    X mX2_follow 6 mc ms (pF1 L G0 S I e q) 125 [some (vR 66), some (vR 4), some (vI e), o3] [] L G k n := by
  have fin : cRc L S I e (-6) (x_up G 68 e (-6)) ∧ cOth e G0 (x_up G 68 e (-6)) ∧ FR (z_foS q) G0 (x_up G 68 e (-6)) :=
    ⟨Or.inl ⟨hl, rfl, x_up_s⟩, oth.up, hQ.up (List.mem_cons_of_mem _ (by decide))⟩
  have k1 : FR [68] G (x_up G 68 e (-6)) := FR.rf.up (by decide)
  clear hl
  refine x_aloadn (pc := 125) dX2_follow_125 rfl ?_
  refine x_getR (68) (pc := 126) dX2_follow_126 fl_X2_15 k_66 (hL 66 (by decide) (by decide)) (f_66_1 hF) ?_
  refine x_iloadn (pc := 129) dX2_follow_129 rfl ?_
  refine x_aloadn (pc := 130) dX2_follow_130 rfl ?_
  refine x_getR (173) (pc := 131) dX2_follow_131 fl_X2_39 k_66 (hL 66 (by decide) (by decide)) hgr ?_
  refine x_cVI (pc := 134) dX2_follow_134 lk_X2_64 (c_gr_isSpent hL hM hsp (Or.inr rfl)) k_173 ⟨by decide, rfl⟩ (hM 173 (by decide) (by decide)) (⟨by decide, by decide⟩) (Nat.le_of_ble_eq_true rfl) rfl ?_
  rintro x G' ⟨rfl, h_G⟩
  obtain rfl := h_G.symm
  refine x_ieq (tgt := 145) (pc := 137) dX2_follow_137 (by decide) (by omega) (fun c_137 => ?_) (fun c_137 => ?_)
  · skip
    exact absurd c_137 (by decide)
  refine x_bipush (pc := 140) dX2_follow_140 (by decide) ?_
  refine x_goto (tgt := 146) (pc := 142) dX2_follow_142 (by decide) ?_
  refine x_iastH (e) (pc := 146) dX2_follow_146 k_68 (hL 68 (by decide) (by decide)) (⟨by omega, by omega, by decide⟩) hF hG (fun hF hG => ?_)
  refine x_aloadn (pc := 147) dX2_follow_147 rfl ?_
  refine x_getR (173) (pc := 148) dX2_follow_148 fl_X2_39 k_66 (hL 66 (by decide) (by decide)) ((congrFun (k1 66 (by decide)) 8).trans hgr) ?_
  refine x_cVI (pc := 151) dX2_follow_151 lk_X2_64 (c_gr_isSpent (n := 1) hL hM (by rw [x_up_ne (by decide)]; exact hsp) (Or.inr rfl)) k_173 ⟨by decide, rfl⟩ (hM 173 (by decide) (by decide)) (⟨by decide, by decide⟩) (Nat.le_of_ble_eq_true rfl) rfl ?_
  rintro x G' ⟨rfl, h_G⟩
  obtain rfl := h_G.symm
  refine x_ieq (tgt := 160) (pc := 154) dX2_follow_154 (by decide) (by omega) (fun c_154 => ?_) (fun c_154 => ?_)
  · skip
    exact absurd c_154 (by decide)
  refine x_bipush (pc := 157) dX2_follow_157 (by decide) ?_
  refine x_rI (pc := 159) dX2_follow_159 rfl ?_
  exact ⟨fin.1, fin.2.1, fin.2.2, hF, hG⟩
theorem l_ch_f106 {mc ms k n : Nat} {o3 : Option (Nat × Int)} {G0 G : Nat → Nat → Int} (hL : x_SL L) (hM : x_GM L) (hF : x_Fin xFL G) (hG : x_Fin xGL G) (hE : cEq m S I G) (he : e < m) (hb : ¬ zbad S I e) (hq : q = 169 + e) (hqL : q ∈ L) (hst : G 78 e = ((q : Nat) : Int)) (hgr : G 66 8 = ((173 : Nat) : Int))
    (oth : cOth e G0 G) (hQ : FR (z_foS q) G0 G) :
    X mX2_follow 6 mc ms (pF1 L G0 S I e q) 106 [some (vR 66), some (vR 4), some (vI e), o3] [] L G k n := by
  have hm4 := hE.2.1
  have hs1 := hE.2.2 (2 * e) (by omega)
  have hs2 := hE.2.2 (2 * e + 1) (by omega)
  have e1 := fun j hj => (hs1.2.2.1 j hj).2
  have e2 := fun j hj => (hs2.2.2.1 j hj).2
  have h0 : zvS (zsk (zs0 S I e)) := zs0_v ⟨hs1.2.1, e1⟩ ⟨hs2.2.1, e2⟩ hb
  have x1 : xSd (6 + 5 * (2 * e)) := Or.inl ⟨2 * e, by omega, rfl⟩
  have x2 : xSd (6 + 5 * (2 * e + 1)) := Or.inl ⟨2 * e + 1, by omega, rfl⟩
  have he4 : e < 4 := by omega
  have hq1 : q < 173 := by omega
  refine x_aloadn (pc := 106) dX2_follow_106 rfl ?_
  refine x_getR (173) (pc := 107) dX2_follow_107 fl_X2_39 k_66 (hL 66 (by decide) (by decide)) hgr ?_
  refine x_aloadn (pc := 110) dX2_follow_110 rfl ?_
  refine x_iloadn (pc := 111) dX2_follow_111 rfl ?_
  refine x_iconst (pc := 112) dX2_follow_112 ?_
  refine x_cVR (pc := 113) dX2_follow_113 lk_X2_56 (c_Eq_side (k := 2 * e) hL hF (by omega) (by omega) (by omega) (by omega)) k_4 ⟨by decide, rfl⟩ (hL 4 (by decide) (by decide)) (⟨by decide, by decide⟩) (Nat.le_of_ble_eq_true rfl) rfl ?_
  rintro q9 G' ⟨rfl, rfl⟩
  refine x_aloadn (pc := 116) dX2_follow_116 rfl ?_
  refine x_iloadn (pc := 117) dX2_follow_117 rfl ?_
  refine x_iconst (pc := 118) dX2_follow_118 ?_
  refine x_cVR (pc := 119) dX2_follow_119 lk_X2_56 (c_Eq_side (k := 2 * e + 1) hL hF (by omega) (by omega) (by omega) (by omega)) k_4 ⟨by decide, rfl⟩ (hL 4 (by decide) (by decide)) (⟨by decide, by decide⟩) (Nat.le_of_ble_eq_true rfl) rfl ?_
  rintro q9 G' ⟨rfl, rfl⟩
  refine x_cVV (pc := 122) dX2_follow_122 lk_X2_60 (c_gr_grow hL hM hF hG x1 x2 hs1 hs2 h0 (zrwl_b8 e1) (zrwl_b8 e2)) k_173 ⟨by decide, rfl⟩ (hM 173 (by decide) (by decide)) (⟨by decide, by decide⟩) (Nat.le_of_ble_eq_true rfl) rfl ?_
  rintro G1 ⟨hx, hff, k0, hF, hG⟩
  have nq : q ∉ z_exS := fun w => by
    have hall : ∀ i, i ∈ z_exS → 173 ≤ i := by decide
    have := hall q w
    omega
  rcases hx with ⟨a1, a2, a3⟩ | ⟨a1, a2⟩
  · exact l_ch_f125N hL hM hF hG he4 h0 a2 hq hqL (by rw [k0 _ (by decide)]; exact hst) (by rw [k0 _ (by decide)]; exact hgr) a1 hff a3 (oth.FR k0 (by decide) (by decide) (by decide) (by decide)) (hQ.tr (k0.mono (zfo_m (by decide))))
  · exact l_ch_f125S hL hM hF hG he4 a2 (by rw [k0 _ (by decide)]; exact hgr) a1 (oth.FR k0 (by decide) (by decide) (by decide) (by decide)) (hQ.tr (k0.mono (zfo_m (by decide))))
end XFU

