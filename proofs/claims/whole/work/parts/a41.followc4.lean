/-! the class: an equation is chased, graph being there, steps made -/
section XF4
variable {L : List Nat} {S : Nat → Nat} {I : Nat → Nat → Nat} {e q m : Nat}
theorem x_FL78 : ∀ t ∈ xFL, t.1 ≠ 78 ∧ t.1 < 167 := by
  have h : (xFL.all fun t => decide (t.1 ≠ 78 ∧ t.1 < 167)) = true := by decide +kernel
  exact fun t ht => of_decide_eq_true (List.all_eq_true.mp h t ht)
theorem x_FinV {l : List (Nat × Nat × Nat)} {G : Nat → Nat → Int} {r j : Nat} {z : Int} (h : x_Fin l G) (hn : ∀ t ∈ l, t.1 ≠ r) : x_Fin l (x_up G r j z) := fun t ht => by rw [x_up_ne (hn t ht)]; exact h t ht
theorem x_GL169 : ∀ t ∈ xGL, 173 ≤ t.1 := by decide
theorem k_s0 {e : Nat} (he : e < 4) : xK (79 + e) = (13, 0) := by
  rcases (show e = 0 ∨ e = 1 ∨ e = 2 ∨ e = 3 by omega) with rfl | rfl | rfl | rfl <;> decide
def cOs (e : Nat) (G G' : Nat → Nat → Int) : Prop := ∀ e', e' ≠ e → G' 78 e' = G 78 e'
def pF2 (L : List Nat) (G0 : Nat → Nat → Int) (S : Nat → Nat) (I : Nat → Nat → Nat) (e q : Nat) : x_Q := fun v L' G' => ∃ x, v = some (vI x) ∧ (L' = L ∨ L' = L ++ [q]) ∧ q ∈ L' ∧ cRc L' S I e x G' ∧ cOth e G0 G' ∧ cOs e G0 G' ∧ G' 78 e = ((q : Nat) : Int) ∧ FR (78 :: z_foS q) G0 G' ∧ x_Fin xFL G' ∧ x_Fin xGL G'
theorem l_ch_f85 {mc ms k n : Nat} {o3 : Option (Nat × Int)} {G0 G : Nat → Nat → Int} (hL : x_SL L) (hM : x_GM L) (hF : x_Fin xFL G) (hG : x_Fin xGL G) (hE : cEq m S I G) (he : e < m) (hb : ¬ zbad S I e) (hq : q = 169 + e) (hst : (G 78 e = ((q : Nat) : Int) ∧ q ∈ L) ∨ (G 78 e = ((79 + e : Nat) : Int) ∧ q ∉ L ∧ k + 1 ≤ mc ∧ n + 1500 ≤ ms)) (hgr : G 66 8 = ((173 : Nat) : Int))
    (oth : cOth e G0 G) (os : cOs e G0 G) (hQ : FR (78 :: z_foS q) G0 G) :
    X mX2_follow 6 mc ms (pF2 L G0 S I e q) 85 [some (vR 66), some (vR 4), some (vI e), o3] [] L G k n := by
  have hm4 := hE.2.1
  have he4 : e < 4 := by omega
  have hkq : xK q = (13, 1500) := by rw [hq]; exact k_st he4
  have hq1 : 169 ≤ q ∧ q < 173 := by omega
  have n78 : 78 ∉ z_foS q := zfo_n hq1 (by decide) (Or.inl (by decide))
  rcases hst with ⟨hst, hqL⟩ | ⟨hst, hqL, hc1, hc2⟩
  · have fin : X mX2_follow 6 mc ms (pF2 L G0 S I e q) 106 [some (vR 66), some (vR 4), some (vI e), o3] [] L G k n := by
      refine X.imp (fun v L' G' w => ?_) (l_ch_f106 (G0 := G) hL hM hF hG hE he hb hq hqL hst hgr cOth.rf FR.rf)
      obtain ⟨rfl, x, w1, w2, w3, w4, w5, w6⟩ := w
      exact ⟨x, w1, Or.inl rfl, hqL, w2, oth.tr w3, fun e' h' => by rw [w4 _ n78]; exact os e' h', by rw [w4 _ n78]; exact hst, hQ.tr (w4.mono (fun i hi => List.mem_cons_of_mem _ hi)), w5, w6⟩
    refine x_aloadn (pc := 85) dX2_follow_85 rfl ?_
    refine x_getR (78) (pc := 86) dX2_follow_86 fl_X2_36 k_66 (hL 66 (by decide) (by decide)) (f_66_7 hF) ?_
    refine x_iloadn (pc := 89) dX2_follow_89 rfl ?_
    refine x_aald (q) _ (pc := 90) dX2_follow_90 k_78 (by decide) (hL 78 (by decide) (by decide)) (⟨rfl, by omega, by decide⟩) (hst) ?_
    refine x_alen (pc := 91) dX2_follow_91 hkq (by decide) hqL ?_
    refine x_ine (tgt := 106) (pc := 92) dX2_follow_92 (by decide) (by omega) (fun c_92 => ?_) (fun c_92 => ?_)
    rotate_left
    · skip
      exact absurd c_92 (by decide)
    exact fin
  · have hkz := k_s0 he4
    have hzL : 79 + e ∈ L := hL _ (by omega) (by omega)
    obtain ⟨q9, hq9⟩ : ∃ q9, q9 = 79 + e := ⟨_, rfl⟩
    rw [← hq9] at hst hkz hzL
    clear hq9
    have k1 : FR [78, q] G (x_up (x_nwG G q) 78 e ((q : Nat) : Int)) := (FR.rf.nw (by simp)).up (by simp)
    have nn : ∀ r, r < 78 ∨ (79 ≤ r ∧ r < 169) ∨ 173 ≤ r → r ∉ [78, q] := fun r h1 h2 => by
      simp only [List.mem_cons, List.not_mem_nil, or_false] at h2
      omega
    have hqm : q ∈ L ++ [q] := List.mem_append_right _ (List.mem_singleton.mpr rfl)
    have hL1 : x_SL (L ++ [q]) := fun i h1 h2 => List.mem_append_left _ (hL i h1 h2)
    have hM1 : x_GM (L ++ [q]) := fun i h1 h2 => List.mem_append_left _ (hM i h1 h2)
    have hF1 : x_Fin xFL (x_up (x_nwG G q) 78 e ((q : Nat) : Int)) := x_FinV (x_FinN hF (fun t ht => by have := x_FL78 t ht; omega)) (fun t ht => (x_FL78 t ht).1)
    have hG1 : x_Fin xGL (x_up (x_nwG G q) 78 e ((q : Nat) : Int)) := x_FinV (x_FinN hG (fun t ht => by have := x_GL169 t ht; omega)) (fun t ht => by have := x_GL169 t ht; omega)
    have hE1 := cEq.FR hE k1 (fun i hi => Or.inr (by simp only [List.mem_cons, List.not_mem_nil, or_false] at hi; omega))
    have fin : X mX2_follow 6 mc ms (pF2 L G0 S I e q) 106 [some (vR 66), some (vR 4), some (vI e), o3] [] (L ++ [q]) (x_up (x_nwG G q) 78 e ((q : Nat) : Int)) (k + 1) (n + 1500) := by
      refine X.imp (fun v L' G' w => ?_) (l_ch_f106 (G0 := (x_up (x_nwG G q) 78 e ((q : Nat) : Int))) hL1 hM1 hF1 hG1 hE1 he hb hq hqm x_up_s (by rw [k1 _ (nn _ (by decide))]; exact hgr) cOth.rf FR.rf)
      obtain ⟨rfl, x, w1, w2, w3, w4, w5, w6⟩ := w
      exact ⟨x, w1, Or.inr rfl, hqm, w2, (oth.FR k1 (nn _ (by decide)) (nn _ (by decide)) (nn _ (by decide)) (nn _ (by decide))).tr w3, fun e' h' => by rw [w4 _ n78, x_up_k h', x_nwG_ne (by omega)]; exact os e' h', by rw [w4 _ n78, x_up_s], (hQ.tr (k1.mono (fun i hi => by
        simp only [List.mem_cons, List.not_mem_nil, or_false] at hi
        rcases hi with hi | hi
        · rw [hi]; exact List.mem_cons_self
        · rw [hi]; exact List.mem_cons_of_mem _ List.mem_cons_self))).tr (w4.mono (fun i hi => List.mem_cons_of_mem _ hi)), w5, w6⟩
    refine x_aloadn (pc := 85) dX2_follow_85 rfl ?_
    refine x_getR (78) (pc := 86) dX2_follow_86 fl_X2_36 k_66 (hL 66 (by decide) (by decide)) (f_66_7 hF) ?_
    refine x_iloadn (pc := 89) dX2_follow_89 rfl ?_
    refine x_aald (q9) _ (pc := 90) dX2_follow_90 k_78 (by decide) (hL 78 (by decide) (by decide)) (⟨rfl, by omega, by decide⟩) (hst) ?_
    refine x_alen (pc := 91) dX2_follow_91 hkz (by decide) hzL ?_
    refine x_ine (tgt := 106) (pc := 92) dX2_follow_92 (by decide) (by omega) (fun c_92 => ?_) (fun c_92 => ?_)
    · skip
      exact absurd rfl c_92
    refine x_aloadn (pc := 95) dX2_follow_95 rfl ?_
    refine x_getR (78) (pc := 96) dX2_follow_96 fl_X2_36 k_66 (hL 66 (by decide) (by decide)) (f_66_7 hF) ?_
    refine x_iloadn (pc := 99) dX2_follow_99 rfl ?_
    refine x_sipush (pc := 100) dX2_follow_100 (by decide) ?_
    refine x_newI (N := 1500) (q := q) (pc := 103) dX2_follow_103 rfl (by decide) ⟨hqL, by omega⟩ hkq la_I ⟨hc1, hc2⟩ ?_
    refine x_aastI e (pc := 105) dX2_follow_105 k_78 (hL1 78 (by decide) (by decide)) hkq hqm ⟨rfl, he4, by decide⟩ ?_
    exact fin
end XF4

