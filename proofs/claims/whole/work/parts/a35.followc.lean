/-! the class: an equation is chased, graph and steps being there -/
section XFW
variable {L : List Nat} {S : Nat → Nat} {I : Nat → Nat → Nat} {e q : Nat}
theorem cKp.FR {s0 : zSt} {T : List Nat} {G G' : Nat → Nat → Int} (h : cKp L s0 e G) (k : FR T G G') (h1 : 70 ∉ T) (h2 : 78 ∉ T) (h3 : 169 + e ∉ T) : cKp L s0 e G' := by
  rcases h with ⟨a1, a2⟩ | ⟨D, m, a1, a2, a3, a4, a5, a6⟩
  · exact Or.inl ⟨a1, by rw [k _ h1]; exact a2⟩
  · exact Or.inr ⟨D, m, a1, a2, by rw [k _ h1]; exact a3, a4, by rw [k _ h2]; exact a5, fun i hi => by rw [k _ h3]; exact a6 i hi⟩
theorem cGf.FR {s0 : zSt} {T : List Nat} {G G' : Nat → Nat → Int} (h : cGf s0 G) (k : FR T G G') (h0 : 173 ∉ T) (h1 : 184 ∉ T) (h2 : 185 ∉ T) (h3 : 186 ∉ T) (h4 : 187 ∉ T) (h5 : 188 ∉ T) (h6 : 189 ∉ T) : cGf s0 G' := by
  obtain ⟨a1, a2, a3⟩ := h
  exact ⟨cGn.FR a1 k h0 h1 h2 h3, fun e he => ⟨by rw [k _ h4]; exact (a2 e he).1, by rw [k _ h5]; exact (a2 e he).2⟩, fun j j1 j2 => by rw [k _ h6]; exact a3 j j1 j2⟩
/-- a chase and what is kept of it -/
def cRc (L : List Nat) (S : Nat → Nat) (I : Nat → Nat → Nat) (e : Nat) (x : Int) (G : Nat → Nat → Int) : Prop := (1500 < (zN (zsk (zs0 S I e)) 6000).length ∧ x = -6 ∧ G 68 e = -6) ∨ ((zN (zsk (zs0 S I e)) 6000).length ≤ 1500 ∧ x = 0 ∧ G 68 e = 0 ∧ G 69 e = (((zN (zsk (zs0 S I e)) 6000).length : Nat) : Int) ∧ cKp L (zsk (zs0 S I e)) e G ∧ zRiP S I e (G 71 e))
abbrev pF1 (L : List Nat) (G0 : Nat → Nat → Int) (S : Nat → Nat) (I : Nat → Nat → Nat) (e q : Nat) : x_Q := qI L fun x G' => cRc L S I e x G' ∧ cOth e G0 G' ∧ FR (z_foS q) G0 G' ∧ x_Fin xFL G' ∧ x_Fin xGL G'
theorem zfo_n {r q : Nat} (hq : 169 ≤ q ∧ q < 173) (hr : r ∉ z_foC) (h2 : r < 169 ∨ 173 ≤ r) : r ∉ z_foS q := fun w => by
  rcases List.mem_cons.mp w with w | w
  · omega
  · exact hr w
theorem l_ch_f206 {mc ms k n : Nat} {o3 : Option (Nat × Int)} {G0 G : Nat → Nat → Int} (hL : x_SL L) (hM : x_GM L) (hF : x_Fin xFL G) (hG : x_Fin xGL G) (he : e < 4) (hl : (zN (zsk (zs0 S I e)) 6000).length ≤ 1500) (hgr : G 66 8 = ((173 : Nat) : Int)) (hg : cGf (zsk (zs0 S I e)) G) (hff : G 173 16 = zffs (zs0 S I e))
    (href : G 68 e = 0) (hmet : G 69 e = (((zN (zsk (zs0 S I e)) 6000).length : Nat) : Int)) (hK : cKp L (zsk (zs0 S I e)) e G) (oth : cOth e G0 G) (hQ : FR (z_foS q) G0 G) :
    X mX2_follow 6 mc ms (pF1 L G0 S I e q) 206 [some (vR 66), some (vR 4), some (vI e), o3] [] L G k n := by
  have hGr := zGr_N hl
  have hdn := hg.1.2.1
  have h0 := zN_pos (s0 := zsk (zs0 S I e)) 6000
  rcases zdn_or (s0 := zsk (zs0 S I e)) with ⟨hd, hno⟩ | ⟨D, hd, hB⟩
  · rw [hd] at hdn
    have fin : cRc L S I e 0 (x_up G 71 e (-1)) ∧ cOth e G0 (x_up G 71 e (-1)) ∧ FR (z_foS q) G0 (x_up G 71 e (-1)) := by
      have k1 : FR [71] G (x_up G 71 e (-1)) := FR.rf.up (by decide)
      refine ⟨Or.inr ⟨hl, rfl, by rw [k1 _ (by decide)]; exact href, by rw [k1 _ (by decide)]; exact hmet, hK.FR k1 (by decide) (by decide) (by simp; omega), ?_⟩, oth.up, hQ.up (List.mem_cons_of_mem _ (by decide))⟩
      rw [x_up_s]
      exact Or.inl ⟨rfl, zno_0 hd⟩
    refine x_aloadn (pc := 206) dX2_follow_206 rfl ?_
    refine x_getR (71) (pc := 207) dX2_follow_207 fl_X2_25 k_66 (hL 66 (by decide) (by decide)) (f_66_4 hF) ?_
    refine x_iloadn (pc := 210) dX2_follow_210 rfl ?_
    refine x_aloadn (pc := 211) dX2_follow_211 rfl ?_
    refine x_getR (173) (pc := 212) dX2_follow_212 fl_X2_39 k_66 (hL 66 (by decide) (by decide)) hgr ?_
    refine x_cVI (pc := 215) dX2_follow_215 lk_X2_72 (c_gr_hasAnswer hL hM hdn (by omega)) k_173 ⟨by decide, rfl⟩ (hM 173 (by decide) (by decide)) (⟨by decide, by decide⟩) (Nat.le_of_ble_eq_true rfl) rfl ?_
    rintro x G' ⟨rfl, h_G⟩
    obtain rfl := h_G.symm
    refine x_ieq (tgt := 231) (pc := 218) dX2_follow_218 (by decide) (by split <;> omega) (fun c_218 => ?_) (fun c_218 => ?_)
    rotate_left
    · skip
      exact absurd (if_pos rfl) c_218
    refine x_iconst (pc := 231) dX2_follow_231 ?_
    refine x_iastH (e) (pc := 232) dX2_follow_232 k_71 (hL 71 (by decide) (by decide)) (⟨by omega, by omega, by decide⟩) hF hG (fun hF hG => ?_)
    refine x_iconst (pc := 233) dX2_follow_233 ?_
    refine x_rI (pc := 234) dX2_follow_234 rfl ?_
    exact ⟨fin.1, fin.2.1, fin.2.2, hF, hG⟩
  · have hE := zEd_of hB
    have hDn := (zBd0_dn hB).2
    rw [hd] at hdn
    have fin : ∀ (x : Int) (G1 : Nat → Nat → Int), zRg (zN (zsk (zs0 S I e)) 6000).length (ztg (zsk (zs0 S I e))) (zBd0 (zsk (zs0 S I e))) (zfe (zsk (zs0 S I e))) (zffs (zs0 S I e)) x → FR z_rfS G G1 → cRc L S I e 0 (x_up G1 71 e x) ∧ cOth e G0 (x_up G1 71 e x) ∧ FR (z_foS q) G0 (x_up G1 71 e x) := by
      intro x G1 hx k0
      have k1 : FR [71] G1 (x_up G1 71 e x) := FR.rf.up (by decide)
      refine ⟨Or.inr ⟨hl, rfl, by rw [k1 _ (by decide), k0 _ (by decide)]; exact href, by rw [k1 _ (by decide), k0 _ (by decide)]; exact hmet, (hK.FR k0 (by decide) (by decide) (by simp [z_rfS]; omega)).FR k1 (by decide) (by decide) (by simp; omega), ?_⟩, (oth.FR k0 (by decide) (by decide) (by decide) (by decide)).up, (hQ.tr (k0.mono (zfo_m (by decide)))).up (List.mem_cons_of_mem _ (by decide))⟩
      rw [x_up_s]
      exact Or.inr ⟨zEd_le hl hE, hx⟩
    refine x_aloadn (pc := 206) dX2_follow_206 rfl ?_
    refine x_getR (71) (pc := 207) dX2_follow_207 fl_X2_25 k_66 (hL 66 (by decide) (by decide)) (f_66_4 hF) ?_
    refine x_iloadn (pc := 210) dX2_follow_210 rfl ?_
    refine x_aloadn (pc := 211) dX2_follow_211 rfl ?_
    refine x_getR (173) (pc := 212) dX2_follow_212 fl_X2_39 k_66 (hL 66 (by decide) (by decide)) hgr ?_
    refine x_cVI (pc := 215) dX2_follow_215 lk_X2_72 (c_gr_hasAnswer hL hM hdn (by omega)) k_173 ⟨by decide, rfl⟩ (hM 173 (by decide) (by decide)) (⟨by decide, by decide⟩) (Nat.le_of_ble_eq_true rfl) rfl ?_
    rintro x G' ⟨rfl, h_G⟩
    obtain rfl := h_G.symm
    refine x_ieq (tgt := 231) (pc := 218) dX2_follow_218 (by decide) (by split <;> omega) (fun c_218 => ?_) (fun c_218 => ?_)
    · skip
      exact absurd c_218 (by rw [if_neg (by omega)]; decide)
    refine x_aloadn (pc := 221) dX2_follow_221 rfl ?_
    refine x_getR (173) (pc := 222) dX2_follow_222 fl_X2_39 k_66 (hL 66 (by decide) (by decide)) hgr ?_
    refine x_cVI (pc := 225) dX2_follow_225 lk_X2_79 (c_gr_ringOrFree (T := ztg (zsk (zs0 S I e))) (B := zBd0 (zsk (zs0 S I e))) (fe := zfe (zsk (zs0 S I e))) (ff := zffs (zs0 S I e)) hL hM hF hG ⟨hg.1.1, hl, fun e' h' => (hg.2.1 e' h').1⟩ hGr.1 hdn hDn hB (fun x _ hx => zBd0_u hx hB) (fun e' h' => ⟨(hg.2.1 e' h').2, zfe_01 _ e'⟩) ⟨hff, zffs_01 _⟩) k_173 ⟨by decide, rfl⟩ (hM 173 (by decide) (by decide)) (⟨by decide, by decide⟩) (Nat.le_of_ble_eq_true rfl) rfl ?_
    rintro x G1 ⟨hx, k0, hF, hG⟩
    refine x_goto (tgt := 232) (pc := 228) dX2_follow_228 (by decide) ?_
    refine x_iastH (e) (pc := 232) dX2_follow_232 k_71 (hL 71 (by decide) (by decide)) (⟨by omega, by omega, by decide⟩) hF hG (fun hF hG => ?_)
    refine x_iconst (pc := 233) dX2_follow_233 ?_
    refine x_rI (pc := 234) dX2_follow_234 rfl ?_
    exact ⟨(fin _ _ hx k0).1, (fin _ _ hx k0).2.1, (fin _ _ hx k0).2.2, hF, hG⟩
end XFW

