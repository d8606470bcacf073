/-! the class: all equations met, edge by edge -/
def cGa (s0 : zSt) (e : Nat) (G : Nat → Nat → Int) : Prop := cGn (zN s0 e) G ∧ (zN s0 e).length ≤ 1500 ∧ G 173 15 = 0 ∧ (∀ e', e' < e → G 187 e' = ztg s0 e' ∧ G 188 e' = zfe s0 e') ∧ ∀ k, 1 ≤ k → k < (zN s0 e).length → G 189 k = ((zcb s0 k : Nat) : Int)
def cGd (s0 : zSt) (e : Nat) (G : Nat → Nat → Int) : Prop := G 173 15 = 1 ∧ G 173 13 = 1500 ∧ 1500 < (zN s0 e).length
abbrev z_exS : List Nat := [174, 176, 177, 178, 179, 181, 182, 183, 173, 184, 185, 186, 187, 188, 189]
section XEX
variable {L : List Nat} {s0 s : zSt}
theorem zfe_on {e : Nat} (h : (zN s0 e)[e / 4]? = some s) (hk : e % 4 < zqn (zhd s.1) (zhd s.2)) : zfe s0 e = if zfv s (e % 4) = 0 then 0 else 1 := (ztg_on h hk).2
theorem zex_step {e : Nat} {x : Int} {G4 G5 : Nat → Nat → Int} (hs : (zN s0 e)[e / 4]? = some s) (hk : e % 4 < zqn (zhd s.1) (zhd s.2)) (a1 : G4 173 13 = (((zN s0 e).length : Nat) : Int)) (a2 : (zN s0 e).length ≤ 1500) (a3 : G4 173 15 = 0) (a4 : ∀ e', e' < e → G4 187 e' = ztg s0 e' ∧ G4 188 e' = zfe s0 e') (a5 : ∀ k, 1 ≤ k → k < (zN s0 e).length → G4 189 k = ((zcb s0 k : Nat) : Int)) (a6 : G4 188 e = zfe s0 e) (h : pMt (zN s0 e) (znx s (e % 4)) e G4 G5 x) : cGa s0 (e + 1) (x_up G5 187 e x) ∨ cGd s0 (e + 1) (x_up G5 187 e x) := by
  have hT := (ztg_on hs hk).1
  have up : FR [187] G5 (x_up G5 187 e x) := FR.rf.up (by decide)
  rcases h with ⟨h1, h2, h3, h4⟩ | ⟨h1, h2, h3, h4, h5, h5s, h6⟩ | ⟨h1, h2, h3, h4, h5, h6, h7, h8, h9⟩
  · have hz : zN s0 (e + 1) = zN s0 e := by rw [zN, zap_old hs h1]
    rw [hz] at hT
    refine Or.inl ⟨by rw [hz]; exact h3.FR up (by decide) (by decide) (by decide) (by decide), by rw [hz]; exact a2, by rw [up _ (by decide), h4 _ (by decide)]; exact a3, fun e' he => ?_, fun k k1 k2 => ?_⟩
    · rw [up 188 (by decide), h4 188 (by decide)]
      by_cases c : e' = e
      · rw [c, x_up_s, hT, h2]; exact ⟨rfl, a6⟩
      · rw [x_up_k c, h4 187 (by decide)]; exact a4 e' (by omega)
    · rw [hz] at k2
      rw [up _ (by decide), h4 _ (by decide)]; exact a5 k k1 k2
  · refine Or.inr ⟨by rw [up _ (by decide)]; exact h4, by rw [up _ (by decide), h5s, a1, h2]; rfl, ?_⟩
    rw [zN, zap_new hs hk h1, List.length_append, List.length_singleton]; omega
  · have hz : zN s0 (e + 1) = zN s0 e ++ [znx s (e % 4)] := by rw [zN, zap_new hs hk h1]
    have hl : (zN s0 (e + 1)).length = (zN s0 e).length + 1 := by rw [hz, List.length_append]; rfl
    rw [hz, zix_new _ _ h1] at hT
    refine Or.inl ⟨by rw [hz]; exact h4.FR up (by decide) (by decide) (by decide) (by decide), by omega, by rw [up _ (by decide), h7]; exact a3, fun e' he => ?_, fun k k1 k2 => ?_⟩
    · rw [up 188 (by decide), h9 188 (by decide)]
      by_cases c : e' = e
      · rw [c, x_up_s, hT, h3]; exact ⟨rfl, a6⟩
      · rw [x_up_k c, h9 187 (by decide)]; exact a4 e' (by omega)
    · rw [up _ (by decide)]
      by_cases c : k = (zN s0 e).length
      · rw [c, h5, zcb_sp rfl hl]
      · rw [h6 k c]; exact a5 k k1 (by omega)
theorem zvS_lens (hv : zvS s) {u : Nat} (hu : 4 ≤ u) : s.1.length + s.1.count u ≤ 30 ∧ s.2.length + s.2.count u ≤ 30 := by
  have h1 := hv.2.2.1
  have h2 := hv.2.2.2.1 u hu
  omega
theorem zb8_pt {A : List Nat} {u : Nat} {p : Int} (hA : zb8 A) (hp : p = -1 ∨ ∃ P : Nat, p = P ∧ P < 8 ∧ P ≠ 3) : zb8 (zpt u p A) := fun x hx => by
  rcases zpt_mem _ hx with q | ⟨q1, q2⟩
  · exact hA x q
  · rcases hp with w | ⟨P, w, w2⟩
    · exact absurd w q1
    · rw [q2, w, Int.toNat_natCast]; exact w2
theorem zpt_len32 {A : List Nat} {u : Nat} {p : Int} (h : A.length + A.count u ≤ 30) : (zpt u p A).length ≤ 32 := by
  have := zpt_cap (p := p) h (Nat.le_refl _)
  rw [List.take_length] at this
  omega
theorem zpi_nat {a b : Int} {k : Nat} (ha : -1 ≤ a ∧ a < 8 ∧ a ≠ 3) (hb : -1 ≤ b ∧ b < 8 ∧ b ≠ 3) : zpi a b k = -1 ∨ ∃ P : Nat, zpi a b k = P ∧ P < 8 ∧ P ≠ 3 := by
  have h : -1 ≤ zpi a b k ∧ zpi a b k < 8 ∧ zpi a b k ≠ 3 := by
    unfold zpi
    (repeat' split) <;> omega
  by_cases c : zpi a b k = -1
  · exact Or.inl c
  · exact Or.inr ⟨(zpi a b k).toNat, by omega, by omega, by omega⟩
theorem zpu_nat {a b : Int} {k : Nat} (ha : -1 ≤ a ∧ a < 8) (hb : -1 ≤ b ∧ b < 8) (hk : k < zqn a b) : ∃ u : Nat, zpu a b k = u ∧ 4 ≤ u ∧ u < 8 := by
  have h1 := zpu_nn hk
  have h2 : zpu a b k < 8 := by
    unfold zpu
    (repeat' split) <;> omega
  exact ⟨(zpu a b k).toNat, by omega, by omega, by omega⟩
abbrev pEx (L : List Nat) (G0 : Nat → Nat → Int) (s0 : zSt) (e : Nat) : x_Q := qV L fun G' => (cGa s0 e G' ∨ cGd s0 e G') ∧ G' 173 16 = G0 173 16 ∧ FR z_exS G0 G' ∧ x_Fin xFL G' ∧ x_Fin xGL G'
/-- what it frees is written, the equation met -/
theorem l_gr_exM {Q : x_Q} {ns : List zSt} {s' : zSt} {A0 B0 : List Nat} {tt e g : Nat} {w1 w2 w3 w4 w6 w7 zf : Int} {G3 : Nat → Nat → Int} (hL : x_SL L) (hM : x_GM L) (hF : x_Fin xFL G3) (hG : x_Fin xGL G3) (hn : ns.length ≤ 1500) (hnd : ns.Nodup) (hvn : ∀ u, u ∈ ns → zvS u) (aa : cGn ns G3) (dd : c_th A0 B0 tt G3) (hs' : s' = (A0.drop tt, B0.drop tt)) (hv : zvS s') (ht : tt ≤ A0.length ∧ tt ≤ B0.length) (hn0 : A0.length ≤ 32 ∧ B0.length ≤ 32) (he : e < 6000) (hg : g < 16) (hz : (g = 0 ∧ zf = 0) ∨ (g ≠ 0 ∧ zf = 1))
    (cont : ∀ (G5 : Nat → Nat → Int) (x : Int), pMt ns s' e (x_up G3 188 e zf) G5 x → x_Fin xFL (x_up G5 187 e x) → x_Fin xGL (x_up G5 187 e x) → X mX5_expand 4 0 0 Q 191 [some (vR 173), some (vI w1), some (vI w2), some (vI w3), some (vI w4), some (vI e), some (vI w6), some (vI w7), some (vI g)] [] L (x_up G5 187 e x) 0 0) :
    X mX5_expand 4 0 0 Q 161 [some (vR 173), some (vI w1), some (vI w2), some (vI w3), some (vI w4), some (vI e), some (vI w6), some (vI w7), some (vI g)] [] L G3 0 0 := by
  have aa2 := fun z : Int => aa.FR (FR.rf.up (S := [188]) (r := 188) (j := e) (z := z) (by decide)) (by decide) (by decide) (by decide) (by decide)
  have dd2 := fun z : Int => dd.FR (FR.rf.up (S := [188]) (r := 188) (j := e) (z := z) (by decide)) (by decide) (by decide) (by decide) (by decide)
  rcases hz with ⟨g0, rfl⟩ | ⟨g0, rfl⟩
  · skip
    refine x_aloadn (pc := 161) dX5_expand_161 rfl ?_
    refine x_getR (188) (pc := 162) dX5_expand_162 fl_X5_35 k_173 (hM 173 (by decide) (by decide)) (f_173_6 hG) ?_
    refine x_iload (pc := 165) dX5_expand_165 rfl ?_
    refine x_iload (pc := 167) dX5_expand_167 rfl ?_
    refine x_ieq (tgt := 176) (pc := 169) dX5_expand_169 (by decide) (by omega) (fun c_169 => ?_) (fun c_169 => ?_)
    rotate_left
    · skip
      exact absurd (by omega) c_169
    refine x_iconst (pc := 176) dX5_expand_176 ?_
    refine x_zastH (e) (pc := 177) dX5_expand_177 k_188 (hM 188 (by decide) (by decide)) (⟨by omega, by omega, by decide⟩) (by omega) hF hG (fun hF hG => ?_)
    refine x_aloadn (pc := 178) dX5_expand_178 rfl ?_
    refine x_getR (187) (pc := 179) dX5_expand_179 fl_X5_32 k_173 (hM 173 (by decide) (by decide)) (f_173_5 hG) ?_
    refine x_iload (pc := 182) dX5_expand_182 rfl ?_
    refine x_aloadn (pc := 184) dX5_expand_184 rfl ?_
    refine x_iload (pc := 185) dX5_expand_185 rfl ?_
    refine x_cVI (pc := 187) dX5_expand_187 lk_X5_88 (c_gr_meet (e := ((e : Nat) : Int)) hL hM hF hG hn hnd hvn (aa2 0) (dd2 0) hs' hv ht hn0) k_173 ⟨by decide, rfl⟩ (hM 173 (by decide) (by decide)) (⟨by decide, by decide⟩) (Nat.le_of_ble_eq_true rfl) rfl ?_
    rintro x G5 ⟨k5, hF, hG⟩
    refine x_iastH (e) (pc := 190) dX5_expand_190 k_187 (hM 187 (by decide) (by decide)) (⟨by omega, by omega, by decide⟩) hF hG (fun hF hG => ?_)
    exact cont _ _ k5 hF hG
  · skip
    refine x_aloadn (pc := 161) dX5_expand_161 rfl ?_
    refine x_getR (188) (pc := 162) dX5_expand_162 fl_X5_35 k_173 (hM 173 (by decide) (by decide)) (f_173_6 hG) ?_
    refine x_iload (pc := 165) dX5_expand_165 rfl ?_
    refine x_iload (pc := 167) dX5_expand_167 rfl ?_
    refine x_ieq (tgt := 176) (pc := 169) dX5_expand_169 (by decide) (by omega) (fun c_169 => ?_) (fun c_169 => ?_)
    · skip
      exact absurd c_169 (by omega)
    refine x_iconst (pc := 172) dX5_expand_172 ?_
    refine x_goto (tgt := 177) (pc := 173) dX5_expand_173 (by decide) ?_
    refine x_zastH (e) (pc := 177) dX5_expand_177 k_188 (hM 188 (by decide) (by decide)) (⟨by omega, by omega, by decide⟩) (by omega) hF hG (fun hF hG => ?_)
    refine x_aloadn (pc := 178) dX5_expand_178 rfl ?_
    refine x_getR (187) (pc := 179) dX5_expand_179 fl_X5_32 k_173 (hM 173 (by decide) (by decide)) (f_173_5 hG) ?_
    refine x_iload (pc := 182) dX5_expand_182 rfl ?_
    refine x_aloadn (pc := 184) dX5_expand_184 rfl ?_
    refine x_iload (pc := 185) dX5_expand_185 rfl ?_
    refine x_cVI (pc := 187) dX5_expand_187 lk_X5_88 (c_gr_meet (e := ((e : Nat) : Int)) hL hM hF hG hn hnd hvn (aa2 1) (dd2 1) hs' hv ht hn0) k_173 ⟨by decide, rfl⟩ (hM 173 (by decide) (by decide)) (⟨by decide, by decide⟩) (Nat.le_of_ble_eq_true rfl) rfl ?_
    rintro x G5 ⟨k5, hF, hG⟩
    refine x_iastH (e) (pc := 190) dX5_expand_190 k_187 (hM 187 (by decide) (by decide)) (⟨by omega, by omega, by decide⟩) hF hG (fun hF hG => ?_)
    exact cont _ _ k5 hF hG
/-- one putting -/
theorem l_gr_exK {Q : x_Q} {k j e : Nat} {o6 o7 o8 : Option (Nat × Int)} {G : Nat → Nat → Int} (hL : x_SL L) (hM : x_GM L) (hF : x_Fin xFL G) (hG : x_Fin xGL G) (h0 : zvS s0) (he4 : e = 4 * k + j) (hj : j < 4) (hs : (zN s0 e)[e / 4]? = some s) (hk : j < zqn (zhd s.1) (zhd s.2)) (ha : cGa s0 e G) (hhe : c_he s.1 s.2 0 G)
    (cont : ∀ (G' : Nat → Nat → Int) (o5 o6 o7 o8 : Option (Nat × Int)), (cGa s0 (e + 1) G' ∨ cGd s0 (e + 1) G') → G' 173 16 = G 173 16 → c_he s.1 s.2 0 G' → FR z_exS G G' → x_Fin xFL G' → x_Fin xGL G' → X mX5_expand 4 0 0 Q 191 [some (vR 173), some (vI k), some (vI (zqn (zhd s.1) (zhd s.2))), some (vI (znm s)), some (vI j), o5, o6, o7, o8] [] L G' 0 0) :
    X mX5_expand 4 0 0 Q 84 [some (vR 173), some (vI k), some (vI (zqn (zhd s.1) (zhd s.2))), some (vI (znm s)), some (vI j), some (vI e), o6, o7, o8] [] L (x_up (x_up G 187 e (-1)) 188 e 0) 0 0 := by
  have he : e % 4 = j := by omega
  have hv := zN_v h0 e s (List.mem_of_getElem? hs)
  obtain ⟨v1, v2⟩ := hv.b8
  have hl24 := hv.2.2.1
  obtain ⟨u, hu, hu4, hu8⟩ := zpu_nat (k := j) ⟨(zhd_bd v1).1, (zhd_bd v1).2.1⟩ ⟨(zhd_bd v2).1, (zhd_bd v2).2.1⟩ hk
  have hpn := zpi_nat (k := j) (zhd_bd v1) (zhd_bd v2)
  obtain ⟨p, hp⟩ : ∃ p, p = zpi (zhd s.1) (zhd s.2) j := ⟨_, rfl⟩
  rw [← hp] at hpn
  have hpb : -1 ≤ p ∧ p < 8 := by rcases hpn with w | ⟨P, w, w2⟩ <;> omega
  have hpq : p = -1 ∨ ∃ P : Nat, p = P ∧ P < 8 := hpn.elim Or.inl (fun ⟨P, w, w2⟩ => Or.inr ⟨P, w, w2.1⟩)
  obtain ⟨c1, c2⟩ := zvS_lens hv hu4
  have hnx : znx s j = ((zpt u p s.1).drop (zcp (zpt u p s.1) (zpt u p s.2)), (zpt u p s.2).drop (zcp (zpt u p s.1) (zpt u p s.2))) := by
    show zsk (zpt (zpu (zhd s.1) (zhd s.2) j) (zpi (zhd s.1) (zhd s.2) j) s.1, zpt (zpu (zhd s.1) (zhd s.2) j) (zpi (zhd s.1) (zhd s.2) j) s.2) = _
    rw [hu, ← hp]; rfl
  have hvx : zvS (znx s j) := zvS_nx hv hk
  obtain ⟨cp1, cp2, _, _⟩ := zcp_sp (zpt u p s.1) (zpt u p s.2)
  have l1 := zpt_len32 (p := p) c1
  have l2 := zpt_len32 (p := p) c2
  have hN1 : znm s < 16 := znf_lt _ _ (fun x hx => (v2 x hx).1) (znf_lt _ _ (fun x hx => (v1 x hx).1) (by decide))
  have hN2 : znm (znx s j) < 16 := znf_lt _ _ (fun x hx => (hvx.b8.2 x hx).1) (znf_lt _ _ (fun x hx => (hvx.b8.1 x hx).1) (by decide))
  have hp2 : (1 : Int) * 2 ^ (u - 4) = ((2 ^ (u - 4) : Nat) : Int) := by simp
  have hp3 : 2 ^ (u - 4) < 2 ^ 4 := Nat.pow_lt_pow_right (by decide) (by omega)
  have q : FR [187, 188] G (x_up (x_up G 187 e (-1)) 188 e 0) := (FR.rf.up (by decide)).up (by decide)
  have qt : ∀ e', e' < e → x_up (x_up G 187 e (-1)) 188 e 0 187 e' = G 187 e' ∧ x_up (x_up G 187 e (-1)) 188 e 0 188 e' = G 188 e' := fun e' h => ⟨by rw [x_up_ne (by decide), x_up_k (by omega)], by rw [x_up_k (by omega), x_up_ne (by decide)]⟩
  have hF1' : x_Fin xFL (x_up (x_up G 187 e (-1)) 188 e 0) := x_FinA (x_FinA hF k_187 (by decide)) k_188 (by decide)
  have hG1' : x_Fin xGL (x_up (x_up G 187 e (-1)) 188 e 0) := x_GinA (x_GinA hG k_187 (by decide)) k_188 (by decide)
  obtain ⟨a1, a2, a3, a4, a5⟩ := ha
  have f0 : zfe s0 e = if zfv s j = 0 then 0 else 1 := by rw [zfe_on hs (by rw [he]; exact hk), he]
  have fvN : p = -1 → zfv s j = zan2 (zan2 (znm s) (znm (znx s j))) (2 ^ (u - 4)) := fun w => by unfold zfv; rw [if_pos (by rw [← hp]; exact w), hu, Int.toNat_natCast]
  have fvP : p ≠ -1 → zfv s j = zan2 (znm s) (znm (znx s j)) := fun w => by unfold zfv; rw [if_neg (by rw [← hp]; exact w)]
  have hzN : p = -1 → (znm s - (znm s &&& znm (znx s j)) - ((znm s - (znm s &&& znm (znx s j))) &&& 2 ^ (u - 4)) = 0 ∧ zfe s0 e = 0) ∨ (znm s - (znm s &&& znm (znx s j)) - ((znm s - (znm s &&& znm (znx s j))) &&& 2 ^ (u - 4)) ≠ 0 ∧ zfe s0 e = 1) := fun w => by
    rw [f0, fvN w]
    by_cases c : zan2 (zan2 (znm s) (znm (znx s j))) (2 ^ (u - 4)) = 0
    · exact Or.inl ⟨c, by rw [if_pos c]⟩
    · exact Or.inr ⟨c, by rw [if_neg c]⟩
  have hzP : p ≠ -1 → (znm s - (znm s &&& znm (znx s j)) = 0 ∧ zfe s0 e = 0) ∨ (znm s - (znm s &&& znm (znx s j)) ≠ 0 ∧ zfe s0 e = 1) := fun w => by
    rw [f0, fvP w]
    by_cases c : zan2 (znm s) (znm (znx s j)) = 0
    · exact Or.inl ⟨c, by rw [if_pos c]⟩
    · exact Or.inr ⟨c, by rw [if_neg c]⟩
  have he6 : e < 6000 := by
    have := (List.getElem?_eq_some_iff.mp hs).1
    omega
  generalize x_up (x_up G 187 e (-1)) 188 e 0 = G1 at *
  have fin : ∀ (z : Int) (G3 G5 : Nat → Nat → Int) (x : Int) (o5 o6 o7 o8 : Option (Nat × Int)), z = zfe s0 e → FR z_thS G1 G3 → pMt (zN s0 e) (znx s j) e (x_up G3 188 e z) G5 x → x_Fin xFL (x_up G5 187 e x) → x_Fin xGL (x_up G5 187 e x) → X mX5_expand 4 0 0 Q 191 [some (vR 173), some (vI k), some (vI (zqn (zhd s.1) (zhd s.2))), some (vI (znm s)), some (vI j), o5, o6, o7, o8] [] L (x_up G5 187 e x) 0 0 := fun z G3 G5 x o5 o6 o7 o8 hz k3 k5 hF hG => by
    have up : FR [188] G3 (x_up G3 188 e z) := FR.rf.up (by decide)
    have st := zex_step (x := x) (G4 := x_up G3 188 e z) (G5 := G5) hs (by rw [he]; exact hk) (by rw [up _ (by decide), k3 _ (by decide), q _ (by decide)]; exact a1.1) a2 (by rw [up _ (by decide), k3 _ (by decide), q _ (by decide)]; exact a3) (fun e' h' => by
      rw [up 187 (by decide), x_up_k (by omega), k3 _ (by decide), k3 _ (by decide), (qt e' h').1, (qt e' h').2]; exact a4 e' h') (fun k' k1 k2 => by rw [up _ (by decide), k3 _ (by decide), q _ (by decide)]; exact a5 k' k1 k2) (by rw [x_up_s]; exact hz) (by rw [he]; exact k5)
    have q5 : FR z_meS (x_up G3 188 e z) G5 ∧ G5 173 16 = (x_up G3 188 e z) 173 16 := by
      rcases k5 with ⟨_, _, _, w⟩ | ⟨_, _, _, _, w1, _, w⟩ | ⟨_, _, _, _, _, _, _, w1, w⟩
      · exact ⟨w.mono (by decide), by rw [w _ (by decide)]⟩
      · exact ⟨w, w1⟩
      · exact ⟨w, w1⟩
    have q6 : FR z_exS G G5 := ((q.mono (by decide)).tr (k3.mono (by decide))).tr ((up.mono (by decide)).tr (q5.1.mono (by decide)))
    refine cont _ _ _ _ _ st ?_ ?_ (q6.up (by decide)) hF hG
    · rw [x_up_ne (by decide), q5.2, up _ (by decide), k3 _ (by decide), q _ (by decide)]
    · have w1 := hhe.FR q (by decide) (by decide) (by decide) (by decide)
      have w2 := w1.FR k3 (by decide) (by decide) (by decide) (by decide)
      have w3 := w2.FR up (by decide) (by decide) (by decide) (by decide)
      have w4 := w3.FR q5.1 (by decide) (by decide) (by decide) (by decide)
      exact w4.FR (FR.rf.up (S := [187]) (by decide)) (by decide) (by decide) (by decide) (by decide)
  have hhe1 := hhe.FR q (by decide) (by decide) (by decide) (by decide)
  have aa1 := a1.FR q (by decide) (by decide) (by decide) (by decide)
  have hF := hF1'
  have hG := hG1'
  refine x_aloadn (pc := 84) dX5_expand_84 rfl ?_
  refine x_getR (174) (pc := 85) dX5_expand_85 fl_X5_12 k_173 (hM 173 (by decide) (by decide)) (f_173_0 hG) ?_
  refine x_iload (pc := 88) dX5_expand_88 rfl ?_
  refine x_cVI (pc := 90) dX5_expand_90 lk_X5_103 (c_he_unknownPut (k := j) hL hM hF hG hhe1 v1 v2 (by omega) hj) k_174 ⟨by decide, rfl⟩ (hM 174 (by decide) (by decide)) (⟨by decide, by decide⟩) (Nat.le_of_ble_eq_true rfl) rfl ?_
  rintro x G' ⟨rfl, h_G⟩
  obtain rfl := h_G.symm
  rw [hu]
  refine x_istore (pc := 93) dX5_expand_93 (by decide) rfl ?_
  refine x_aloadn (pc := 95) dX5_expand_95 rfl ?_
  refine x_getR (174) (pc := 96) dX5_expand_96 fl_X5_12 k_173 (hM 173 (by decide) (by decide)) (f_173_0 hG) ?_
  refine x_iload (pc := 99) dX5_expand_99 rfl ?_
  refine x_cVI (pc := 101) dX5_expand_101 lk_X5_106 (c_he_itemPut (k := j) hL hM hF hG hhe1 v1 v2 (by omega) hj) k_174 ⟨by decide, rfl⟩ (hM 174 (by decide) (by decide)) (⟨by decide, by decide⟩) (Nat.le_of_ble_eq_true rfl) rfl ?_
  rintro x G' ⟨rfl, h_G⟩
  obtain rfl := h_G.symm
  rw [← hp]
  refine x_istore (pc := 104) dX5_expand_104 (by decide) rfl ?_
  refine x_aloadn (pc := 106) dX5_expand_106 rfl ?_
  refine x_getR (179) (pc := 107) dX5_expand_107 fl_X5_18 k_173 (hM 173 (by decide) (by decide)) (f_173_1 hG) ?_
  refine x_aloadn (pc := 110) dX5_expand_110 rfl ?_
  refine x_getR (174) (pc := 111) dX5_expand_111 fl_X5_12 k_173 (hM 173 (by decide) (by decide)) (f_173_0 hG) ?_
  refine x_iload (pc := 114) dX5_expand_114 rfl ?_
  refine x_iload (pc := 116) dX5_expand_116 rfl ?_
  refine x_cVV (pc := 118) dX5_expand_118 lk_X5_109 (c_th_become (u := u) (p := p) hL hM hF hG hhe1 v1 v2 c1 c2 hu8 hpq) k_179 ⟨by decide, rfl⟩ (hM 179 (by decide) (by decide)) (⟨by decide, by decide⟩) (Nat.le_of_ble_eq_true rfl) rfl ?_
  rintro G2 ⟨b1, b2, hF, hG⟩
  refine x_aloadn (pc := 121) dX5_expand_121 rfl ?_
  refine x_getR (179) (pc := 122) dX5_expand_122 fl_X5_18 k_173 (hM 173 (by decide) (by decide)) (f_173_1 hG) ?_
  refine x_cVV (pc := 125) dX5_expand_125 lk_X5_85 (c_th_strike hL hM hF hG b1 (zb8_pt v1 hpn) (zb8_pt v2 hpn) (by omega)) k_179 ⟨by decide, rfl⟩ (hM 179 (by decide) (by decide)) (⟨by decide, by decide⟩) (Nat.le_of_ble_eq_true rfl) rfl ?_
  rintro G3 ⟨d1, d2, hF, hG⟩
  have k3 : FR z_thS G1 G3 := b2.tr (d2.mono (by decide))
  refine x_iloadn (pc := 128) dX5_expand_128 rfl ?_
  refine x_aloadn (pc := 129) dX5_expand_129 rfl ?_
  refine x_getR (179) (pc := 130) dX5_expand_130 fl_X5_18 k_173 (hM 173 (by decide) (by decide)) (f_173_1 hG) ?_
  refine x_cVI (pc := 133) dX5_expand_133 lk_X5_81 (c_th_unknowns hL hM hF hG d1 (zb8_pt v1 hpn) (zb8_pt v2 hpn) (by omega) (by omega)) k_179 ⟨by decide, rfl⟩ (hM 179 (by decide) (by decide)) (⟨by decide, by decide⟩) (Nat.le_of_ble_eq_true rfl) rfl ?_
  rintro x G' ⟨rfl, h_G⟩
  obtain rfl := h_G.symm
  rw [← hnx]
  refine x_iconst (pc := 136) dX5_expand_136 ?_
  refine x_not (pc := 137) dX5_expand_137 rfl ?_
  refine x_iandc (pc := 138) dX5_expand_138 (znm s) (znm (znx s j)) rfl rfl (by omega) ?_
  refine x_istore (pc := 139) dX5_expand_139 (by decide) rfl ?_
  refine x_iload (pc := 141) dX5_expand_141 rfl ?_
  refine x_iconst (pc := 143) dX5_expand_143 ?_
  refine x_cne (tgt := 161) (pc := 144) dX5_expand_144 (by decide) (by omega) (fun c_144 => ?_) (fun c_144 => ?_)
  · skip
    first
    | exact l_gr_exM (zf := zfe s0 e) hL hM hF hG a2 (zN_nd e) (zN_v h0 e) (aa1.FR k3 (by decide) (by decide) (by decide) (by decide)) d1 hnx hvx (by omega) (by omega) he6 (by omega) (hzP (by omega)) (fun G5 x k5 hF hG => fin _ _ G5 x _ _ _ _ rfl k3 k5 hF hG)
    | exact l_gr_exM (zf := zfe s0 e) hL hM hF hG a2 (zN_nd e) (zN_v h0 e) (aa1.FR k3 (by decide) (by decide) (by decide) (by decide)) d1 hnx hvx (by omega) (by omega) he6 (by omega) (hzN (by omega)) (fun G5 x k5 hF hG => fin _ _ G5 x _ _ _ _ rfl k3 k5 hF hG)
  · skip
    refine x_iload (pc := 147) dX5_expand_147 rfl ?_
    refine x_iconst (pc := 149) dX5_expand_149 ?_
    refine x_iload (pc := 150) dX5_expand_150 rfl ?_
    refine x_cSNI (pc := 152) dX5_expand_152 lk_X5_113 (c_ts_uOf) (⟨by decide, by decide⟩) (Nat.le_of_ble_eq_true rfl) rfl ?_
    rintro x G' ⟨rfl, h_G⟩
    obtain rfl := h_G.symm
    refine x_ishl (pc := 155) dX5_expand_155 (u - 4) (by omega) (by omega) ?_
    rw [hp2]
    refine x_iconst (pc := 156) dX5_expand_156 ?_
    refine x_not (pc := 157) dX5_expand_157 rfl ?_
    refine x_iandc (pc := 158) dX5_expand_158 (znm s - (znm s &&& znm (znx s j))) (2 ^ (u - 4)) rfl rfl (by omega) ?_
    refine x_istore (pc := 159) dX5_expand_159 (by decide) rfl ?_
    first
    | exact l_gr_exM (zf := zfe s0 e) hL hM hF hG a2 (zN_nd e) (zN_v h0 e) (aa1.FR k3 (by decide) (by decide) (by decide) (by decide)) d1 hnx hvx (by omega) (by omega) he6 (by omega) (hzP (by omega)) (fun G5 x k5 hF hG => fin _ _ G5 x _ _ _ _ rfl k3 k5 hF hG)
    | exact l_gr_exM (zf := zfe s0 e) hL hM hF hG a2 (zN_nd e) (zN_v h0 e) (aa1.FR k3 (by decide) (by decide) (by decide) (by decide)) d1 hnx hvx (by omega) (by omega) he6 (by omega) (hzN (by omega)) (fun G5 x k5 hF hG => fin _ _ G5 x _ _ _ _ rfl k3 k5 hF hG)
theorem l_gr_ex {k : Nat} {G0 : Nat → Nat → Int} (hL : x_SL L) (hM : x_GM L) (h0 : zvS s0) (hs : (zN s0 (4 * k))[k]? = some s) (hk15 : k < 1500) :
    ∀ (r j : Nat) (G : Nat → Nat → Int) (o5 o6 o7 o8 : Option (Nat × Int)), j + r = 4 → (cGa s0 (4 * k + j) G ∨ cGd s0 (4 * k + j) G) → G 173 16 = G0 173 16 → c_he s.1 s.2 0 G → FR z_exS G0 G → x_Fin xFL G → x_Fin xGL G →
    X mX5_expand 4 0 0 (pEx L G0 s0 (4 * k + 4)) 38 [some (vR 173), some (vI k), some (vI (zqn (zhd s.1) (zhd s.2))), some (vI (znm s)), some (vI j), o5, o6, o7, o8] [] L G 0 0 := by
  have hq4 : zqn (zhd s.1) (zhd s.2) ≤ 4 := by unfold zqn; (repeat' split) <;> omega
  intro r
  induction r with
  | zero =>
    intro j G o5 o6 o7 o8 hj hst hff hhe hQ hF hG
    have hj : j = 4 := by omega
    subst hj
    refine x_iload (pc := 38) dX5_expand_38 rfl ?_
    refine x_iconst (pc := 40) dX5_expand_40 ?_
    refine x_cge (tgt := 197) (pc := 41) dX5_expand_41 (by decide) (by omega) (fun c_41 => ?_) (fun c_41 => ?_)
    rotate_left
    · skip
      exact absurd c_41 (by decide)
    refine x_rV (pc := 197) dX5_expand_197 rfl ?_
    exact ⟨hst, hff, hQ, hF, hG⟩
  | succ r ih =>
    intro j G o5 o6 o7 o8 hj hst hff hhe hQ hF hG
    have hei : 4 * ((k : Nat) : Int) + ((j : Nat) : Int) = ((4 * k + j : Nat) : Int) := by omega
    obtain ⟨e, he⟩ : ∃ e, e = 4 * k + j := ⟨_, rfl⟩
    have hs2 : (zN s0 e)[e / 4]? = some s := by rw [show e / 4 = k by omega]; exact zN_get (by omega) hs
    have hem : e % 4 = j := by omega
    have ihx := fun G o5 o6 o7 o8 => ih (j + 1) G o5 o6 o7 o8 (by omega)
    rw [show 4 * k + (j + 1) = e + 1 by omega] at ihx
    rw [← he] at hst hei
    have hhe1 := hhe.FR (S := [187, 188]) (G' := x_up (x_up G 187 e (-1)) 188 e 0) ((FR.rf.up (by decide)).up (by decide)) (by decide) (by decide) (by decide) (by decide)
    have hQ1 : FR z_exS G0 (x_up (x_up G 187 e (-1)) 188 e 0) := (hQ.up (by decide)).up (by decide)
    have hff1 : (x_up (x_up G 187 e (-1)) 188 e 0) 173 16 = G0 173 16 := by rw [x_up_ne (by decide), x_up_ne (by decide)]; exact hff
    rcases hst with ha | hd
    · have hsp : G 173 15 = 0 := ha.2.2.1
      by_cases hk : j < zqn (zhd s.1) (zhd s.2)
      · skip
        refine x_iload (pc := 38) dX5_expand_38 rfl ?_
        refine x_iconst (pc := 40) dX5_expand_40 ?_
        refine x_cge (tgt := 197) (pc := 41) dX5_expand_41 (by decide) (by omega) (fun c_41 => ?_) (fun c_41 => ?_)
        · skip
          exact absurd c_41 (by omega)
        refine x_iconst (pc := 44) dX5_expand_44 ?_
        refine x_iloadn (pc := 45) dX5_expand_45 rfl ?_
        refine x_imul (pc := 46) dX5_expand_46 ?_
        refine x_iload (pc := 47) dX5_expand_47 rfl ?_
        refine x_iadd (pc := 49) dX5_expand_49 ?_
        rw [hei]
        refine x_istore (pc := 50) dX5_expand_50 (by decide) rfl ?_
        refine x_aloadn (pc := 52) dX5_expand_52 rfl ?_
        refine x_getR (187) (pc := 53) dX5_expand_53 fl_X5_32 k_173 (hM 173 (by decide) (by decide)) (f_173_5 hG) ?_
        refine x_iload (pc := 56) dX5_expand_56 rfl ?_
        refine x_iconst (pc := 58) dX5_expand_58 ?_
        refine x_iastH (e) (pc := 59) dX5_expand_59 k_187 (hM 187 (by decide) (by decide)) (⟨by omega, by omega, by decide⟩) hF hG (fun hF hG => ?_)
        refine x_aloadn (pc := 60) dX5_expand_60 rfl ?_
        refine x_getR (188) (pc := 61) dX5_expand_61 fl_X5_35 k_173 (hM 173 (by decide) (by decide)) (f_173_6 hG) ?_
        refine x_iload (pc := 64) dX5_expand_64 rfl ?_
        refine x_iconst (pc := 66) dX5_expand_66 ?_
        refine x_zastH (e) (pc := 67) dX5_expand_67 k_188 (hM 188 (by decide) (by decide)) (⟨by omega, by omega, by decide⟩) (by omega) hF hG (fun hF hG => ?_)
        refine x_iload (pc := 68) dX5_expand_68 rfl ?_
        refine x_iloadn (pc := 70) dX5_expand_70 rfl ?_
        refine x_cge (tgt := 191) (pc := 71) dX5_expand_71 (by decide) (by omega) (fun c_71 => ?_) (fun c_71 => ?_)
        · skip
          exact absurd c_71 (by omega)
        refine x_aloadn (pc := 74) dX5_expand_74 rfl ?_
        refine x_getZ (pc := 75) dX5_expand_75 fl_X5_64 k_173 (hM 173 (by decide) (by decide)) ?_
        rw [x_up_ne (by decide), x_up_ne (by decide), hsp]
        refine x_ieq (tgt := 84) (pc := 78) dX5_expand_78 (by decide) (by decide) (fun _ => ?_) (fun w => absurd rfl w)
        refine l_gr_exK hL hM (by assumption) (by assumption) h0 he (by omega) hs2 hk ha hhe (fun G' o5 o6 o7 o8 b1 b2 b3 b4 b5 b6 => ?_)
        refine x_iinc (pc := 191) dX5_expand_191 rfl (by decide) rfl ?_
        refine x_goto (tgt := 38) (pc := 194) dX5_expand_194 (by decide) ?_
        exact ihx _ _ _ _ _ b1 (b2.trans hff) b3 (hQ.tr b4) b5 b6
      · have hz : zN s0 (e + 1) = zN s0 e := by rw [zN, zap_off hs2 (by omega)]
        obtain ⟨a1, a2, a3, a4, a5⟩ := ha
        obtain ⟨t1, t2⟩ := ztg_off hs2 (show ¬ e % 4 < zqn (zhd s.1) (zhd s.2) by omega)
        have q : FR [187, 188] G (x_up (x_up G 187 e (-1)) 188 e 0) := (FR.rf.up (by decide)).up (by decide)
        have hst1 : cGa s0 (e + 1) (x_up (x_up G 187 e (-1)) 188 e 0) := by
          refine ⟨by rw [hz]; exact a1.FR q (by decide) (by decide) (by decide) (by decide), by rw [hz]; exact a2, by rw [q _ (by decide)]; exact a3, fun e' h' => ?_, fun k' k1 k2 => by rw [hz] at k2; rw [q _ (by decide)]; exact a5 k' k1 k2⟩
          by_cases c : e' = e
          · rw [c, x_up_s, x_up_ne (by decide), x_up_s]; exact ⟨t1.symm, t2.symm⟩
          · rw [x_up_k c, x_up_ne (by decide), x_up_k c, x_up_ne (by decide)]; exact a4 e' (by omega)
        refine x_iload (pc := 38) dX5_expand_38 rfl ?_
        refine x_iconst (pc := 40) dX5_expand_40 ?_
        refine x_cge (tgt := 197) (pc := 41) dX5_expand_41 (by decide) (by omega) (fun c_41 => ?_) (fun c_41 => ?_)
        · skip
          exact absurd c_41 (by omega)
        refine x_iconst (pc := 44) dX5_expand_44 ?_
        refine x_iloadn (pc := 45) dX5_expand_45 rfl ?_
        refine x_imul (pc := 46) dX5_expand_46 ?_
        refine x_iload (pc := 47) dX5_expand_47 rfl ?_
        refine x_iadd (pc := 49) dX5_expand_49 ?_
        rw [hei]
        refine x_istore (pc := 50) dX5_expand_50 (by decide) rfl ?_
        refine x_aloadn (pc := 52) dX5_expand_52 rfl ?_
        refine x_getR (187) (pc := 53) dX5_expand_53 fl_X5_32 k_173 (hM 173 (by decide) (by decide)) (f_173_5 hG) ?_
        refine x_iload (pc := 56) dX5_expand_56 rfl ?_
        refine x_iconst (pc := 58) dX5_expand_58 ?_
        refine x_iastH (e) (pc := 59) dX5_expand_59 k_187 (hM 187 (by decide) (by decide)) (⟨by omega, by omega, by decide⟩) hF hG (fun hF hG => ?_)
        refine x_aloadn (pc := 60) dX5_expand_60 rfl ?_
        refine x_getR (188) (pc := 61) dX5_expand_61 fl_X5_35 k_173 (hM 173 (by decide) (by decide)) (f_173_6 hG) ?_
        refine x_iload (pc := 64) dX5_expand_64 rfl ?_
        refine x_iconst (pc := 66) dX5_expand_66 ?_
        refine x_zastH (e) (pc := 67) dX5_expand_67 k_188 (hM 188 (by decide) (by decide)) (⟨by omega, by omega, by decide⟩) (by omega) hF hG (fun hF hG => ?_)
        refine x_iload (pc := 68) dX5_expand_68 rfl ?_
        refine x_iloadn (pc := 70) dX5_expand_70 rfl ?_
        refine x_cge (tgt := 191) (pc := 71) dX5_expand_71 (by decide) (by omega) (fun c_71 => ?_) (fun c_71 => ?_)
        rotate_left
        · skip
          exact absurd (by omega) hk
        refine x_iinc (pc := 191) dX5_expand_191 rfl (by decide) rfl ?_
        refine x_goto (tgt := 38) (pc := 194) dX5_expand_194 (by decide) ?_
        exact ihx _ _ _ _ _ (Or.inl hst1) hff1 hhe1 hQ1 hF hG
    · have hst1 : cGd s0 (e + 1) (x_up (x_up G 187 e (-1)) 188 e 0) := ⟨by rw [x_up_ne (by decide), x_up_ne (by decide)]; exact hd.1, by rw [x_up_ne (by decide), x_up_ne (by decide)]; exact hd.2.1, by have := zN_len (s0 := s0) (show e ≤ e + 1 by omega); have := hd.2.2; omega⟩
      have hsp := hst1.1
      refine x_iload (pc := 38) dX5_expand_38 rfl ?_
      refine x_iconst (pc := 40) dX5_expand_40 ?_
      refine x_cge (tgt := 197) (pc := 41) dX5_expand_41 (by decide) (by omega) (fun c_41 => ?_) (fun c_41 => ?_)
      · skip
        exact absurd c_41 (by omega)
      refine x_iconst (pc := 44) dX5_expand_44 ?_
      refine x_iloadn (pc := 45) dX5_expand_45 rfl ?_
      refine x_imul (pc := 46) dX5_expand_46 ?_
      refine x_iload (pc := 47) dX5_expand_47 rfl ?_
      refine x_iadd (pc := 49) dX5_expand_49 ?_
      rw [hei]
      refine x_istore (pc := 50) dX5_expand_50 (by decide) rfl ?_
      refine x_aloadn (pc := 52) dX5_expand_52 rfl ?_
      refine x_getR (187) (pc := 53) dX5_expand_53 fl_X5_32 k_173 (hM 173 (by decide) (by decide)) (f_173_5 hG) ?_
      refine x_iload (pc := 56) dX5_expand_56 rfl ?_
      refine x_iconst (pc := 58) dX5_expand_58 ?_
      refine x_iastH (e) (pc := 59) dX5_expand_59 k_187 (hM 187 (by decide) (by decide)) (⟨by omega, by omega, by decide⟩) hF hG (fun hF hG => ?_)
      refine x_aloadn (pc := 60) dX5_expand_60 rfl ?_
      refine x_getR (188) (pc := 61) dX5_expand_61 fl_X5_35 k_173 (hM 173 (by decide) (by decide)) (f_173_6 hG) ?_
      refine x_iload (pc := 64) dX5_expand_64 rfl ?_
      refine x_iconst (pc := 66) dX5_expand_66 ?_
      refine x_zastH (e) (pc := 67) dX5_expand_67 k_188 (hM 188 (by decide) (by decide)) (⟨by omega, by omega, by decide⟩) (by omega) hF hG (fun hF hG => ?_)
      refine x_iload (pc := 68) dX5_expand_68 rfl ?_
      refine x_iloadn (pc := 70) dX5_expand_70 rfl ?_
      refine x_cge (tgt := 191) (pc := 71) dX5_expand_71 (by decide) (by omega) (fun c_71 => ?_) (fun c_71 => ?_)
      · skip
        refine x_iinc (pc := 191) dX5_expand_191 rfl (by decide) rfl ?_
        refine x_goto (tgt := 38) (pc := 194) dX5_expand_194 (by decide) ?_
        exact ihx _ _ _ _ _ (Or.inr hst1) hff1 hhe1 hQ1 hF hG
      · skip
        refine x_aloadn (pc := 74) dX5_expand_74 rfl ?_
        refine x_getZ (pc := 75) dX5_expand_75 fl_X5_64 k_173 (hM 173 (by decide) (by decide)) ?_
        rw [hsp]
        refine x_ieq (tgt := 84) (pc := 78) dX5_expand_78 (by decide) (by omega) (fun c_78 => ?_) (fun c_78 => ?_)
        · skip
          exact absurd c_78 (by decide)
        refine x_goto (tgt := 191) (pc := 81) dX5_expand_81 (by decide) ?_
        refine x_iinc (pc := 191) dX5_expand_191 rfl (by decide) rfl ?_
        refine x_goto (tgt := 38) (pc := 194) dX5_expand_194 (by decide) ?_
        exact ihx _ _ _ _ _ (Or.inr hst1) hff1 hhe1 hQ1 hF hG
theorem c_gr_expand {k : Nat} {G : Nat → Nat → Int} (hL : x_SL L) (hM : x_GM L) (hF : x_Fin xFL G) (hG : x_Fin xGL G) (h0 : zvS s0) (ha : cGa s0 (4 * k) G) (hk : k < (zN s0 (4 * k)).length) :
    CM yX5_expand mX5_expand 4 0 0 [vR 173, vI k] L G (pEx L G s0 (4 * k + 4)) := by
  obtain ⟨s, hs⟩ : ∃ s, (zN s0 (4 * k))[k]? = some s := ⟨_, List.getElem?_eq_getElem hk⟩
  have hv := zN_v h0 _ s (List.mem_of_getElem? hs)
  obtain ⟨v1, v2⟩ := hv.b8
  have hl24 := hv.2.2.1
  obtain ⟨n1, n2⟩ := ha.1.2.2.1 k s hs
  have hl15 := ha.2.1
  refine Ct.of_X (μ := mX5_expand) rfl rfl (by decide) (fun h => by cases h) (Nat.le_of_ble_eq_true rfl) rfl ?_
  refine x_aloadn (pc := 0) dX5_expand_0 rfl ?_
  refine x_getR (174) (pc := 1) dX5_expand_1 fl_X5_12 k_173 (hM 173 (by decide) (by decide)) (f_173_0 hG) ?_
  refine x_aloadn (pc := 4) dX5_expand_4 rfl ?_
  refine x_getR (184) (pc := 5) dX5_expand_5 fl_X5_21 k_173 (hM 173 (by decide) (by decide)) (f_173_2 hG) ?_
  refine x_iloadn (pc := 8) dX5_expand_8 rfl ?_
  refine x_lald (k) (pc := 9) dX5_expand_9 k_184 (hM 184 (by decide) (by decide)) (⟨by omega, by omega, by decide⟩) ?_
  rw [n1]
  refine x_aloadn (pc := 10) dX5_expand_10 rfl ?_
  refine x_getR (185) (pc := 11) dX5_expand_11 fl_X5_25 k_173 (hM 173 (by decide) (by decide)) (f_173_3 hG) ?_
  refine x_iloadn (pc := 14) dX5_expand_14 rfl ?_
  refine x_iald (k) (pc := 15) dX5_expand_15 k_185 (hM 185 (by decide) (by decide)) (⟨by omega, by omega, by decide⟩) ?_
  rw [n2]
  refine x_cVV (pc := 16) dX5_expand_16 lk_X5_96 (c_he_unpack hL hM hF hG hv) k_174 ⟨by decide, rfl⟩ (hM 174 (by decide) (by decide)) (⟨by decide, by decide⟩) (Nat.le_of_ble_eq_true rfl) rfl ?_
  rintro G1 ⟨k1, k2, hF, hG⟩
  refine x_aloadn (pc := 19) dX5_expand_19 rfl ?_
  refine x_getR (174) (pc := 20) dX5_expand_20 fl_X5_12 k_173 (hM 173 (by decide) (by decide)) (f_173_0 hG) ?_
  refine x_cVI (pc := 23) dX5_expand_23 lk_X5_100 (c_he_puttings hL hM hF hG k1 v1 v2 (by omega)) k_174 ⟨by decide, rfl⟩ (hM 174 (by decide) (by decide)) (⟨by decide, by decide⟩) (Nat.le_of_ble_eq_true rfl) rfl ?_
  rintro x G' ⟨rfl, h_G⟩
  obtain rfl := h_G.symm
  refine x_istoren (pc := 26) dX5_expand_26 rfl (by decide) rfl ?_
  refine x_aloadn (pc := 27) dX5_expand_27 rfl ?_
  refine x_getR (174) (pc := 28) dX5_expand_28 fl_X5_12 k_173 (hM 173 (by decide) (by decide)) (f_173_0 hG) ?_
  refine x_cVI (pc := 31) dX5_expand_31 lk_X5_81 (c_he_unknowns hL hM hF hG k1 v1 v2 (by omega) ⟨Nat.zero_le _, Nat.zero_le _⟩) k_174 ⟨by decide, rfl⟩ (hM 174 (by decide) (by decide)) (⟨by decide, by decide⟩) (Nat.le_of_ble_eq_true rfl) rfl ?_
  rintro x G' ⟨rfl, h_G⟩
  obtain rfl := h_G.symm
  rw [List.drop_zero, List.drop_zero]
  refine x_istoren (pc := 34) dX5_expand_34 rfl (by decide) rfl ?_
  refine x_iconst (pc := 35) dX5_expand_35 ?_
  refine x_istore (pc := 36) dX5_expand_36 (by decide) rfl ?_
  refine l_gr_ex hL hM h0 hs (by omega) 4 0 _ none none none none (by omega) (Or.inl ?_) (by rw [k2 _ (by decide)]) k1 (k2.mono (by decide)) hF hG
  obtain ⟨a1, a2, a3, a4, a5⟩ := ha
  exact ⟨a1.FR k2 (by decide) (by decide) (by decide) (by decide), a2, by rw [k2 _ (by decide)]; exact a3, fun e' h' => by rw [k2 _ (by decide), k2 _ (by decide)]; exact a4 e' h', fun k' b1 b2 => by rw [k2 _ (by decide)]; exact a5 k' b1 b2⟩
end XEX

