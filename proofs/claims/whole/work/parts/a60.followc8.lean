/-! the class: an equation is chased: the whole -/
section XF8
variable {L : List Nat} {S : Nat → Nat} {I : Nat → Nat → Nat} {e m : Nat}
def z_n22 : List Nat := [] ++ [173] ++ nw_173
def z_u22 : List (Nat × Nat × Int) := (66, 8, 173) :: (us_173 ++ [])
theorem l_ch_g67 {mc ms k n : Nat} {o3 : Option (Nat × Int)} {G G1 : Nat → Nat → Int} (hL : x_SL L) (hF : x_Fin xFL G1) (hE : cEq m S I G1) (he : e < m) (hb : ¬ zbad S I e) (hC : cCh L m S I G) (hfo : G1 67 e = 1)
    (hcap : k + fC L e ≤ mc ∧ n + fS L e ≤ ms) (o67 : ∀ e', e' ≠ e → G1 67 e' = G 67 e') (oth : cOth e G G1) (hk : FR [67, 68] G G1) :
    X mX2_follow 6 mc ms (pFo L G m S I e) 67 [some (vR 66), some (vR 4), some (vI e), o3] [] L G1 k n := by
  have hQ : FR z_fT G G1 := hk.mono (by decide)
  have k66 : G1 66 = G 66 := hk 66 (by decide)
  have k78 : G1 78 = G 78 := hk 78 (by decide)
  have hkc : 169 + e ∈ L ∨ (k + fC L e ≤ mc ∧ n + fS L e ≤ ms) := Or.inr hcap
  rcases hC.2 with ⟨c1, c2, c3⟩ | ⟨c1, c2⟩
  · have hG1 : x_Fin xGL G1 := fun t ht => by
      have := x_GL169 t ht
      rw [hk t.1 (fun w => by simp only [List.mem_cons, List.not_mem_nil, or_false] at w; omega)]
      exact c3 t ht
    refine l_ch_f67 hL hF (by rw [k66]; exact c1) (l_ch_g85 hL c2 hF hG1 hE he hb hC (by rw [k66]; exact c1) hfo x_gr.rf (fun _ _ => Iff.rfl) ?_ o67 oth (fun e' => by rw [k78]) (fun i i1 i2 => hk i (fun w => by simp only [List.mem_cons, List.not_mem_nil, or_false] at w; omega)) hQ)
    by_cases c : 169 + e ∈ L
    · exact Or.inl c
    · unfold fC fS at hcap
      rw [if_neg c, if_neg c] at hcap
      exact Or.inr ⟨by omega, by omega⟩
  · have n173 : 173 ∉ L := c2 173 (by decide) (by decide)
    have hcap2 : k + 22 ≤ mc ∧ n + 32759 ≤ ms ∧ (169 + e ∈ L ∨ (k + 23 ≤ mc ∧ n + 34259 ≤ ms)) := by
      unfold fC fS at hcap
      rw [if_neg n173, if_neg n173] at hcap
      by_cases c : 169 + e ∈ L
      · rw [if_pos c, if_pos c] at hcap
        exact ⟨by omega, by omega, Or.inl c⟩
      · rw [if_neg c, if_neg c] at hcap
        exact ⟨by omega, by omega, Or.inr ⟨by omega, by omega⟩⟩
    have hLn : ∀ i, i ∈ z_n22 → 173 ≤ i ∧ i < 195 := by decide +kernel
    have hnL : ∀ i, i < 195 → 173 ≤ i → i ∈ z_n22 := by decide +kernel
    have hun : ∀ t ∈ z_u22, t.1 = 66 ∨ (173 ≤ t.1 ∧ t.1 < 195) := by decide +kernel
    have hL1 : x_SL (L ++ z_n22) := fun i i1 i2 => List.mem_append_left _ (hL i i1 i2)
    have hM1 : x_GM (L ++ z_n22) := fun i i1 i2 => List.mem_append_right _ (hnL i i2 i1)
    have kk : FR (66 :: z_n22) G1 (x_mk z_n22 z_u22 G1) := x_mk_FR (fun i hi => List.mem_cons_of_mem _ hi) (fun t ht => by
      rcases hun t ht with w | w
      · rw [w]; exact List.mem_cons_self
      · exact List.mem_cons_of_mem _ (hnL _ w.2 w.1))
    have nn : ∀ i, i ≠ 66 → i < 173 → x_mk z_n22 z_u22 G1 i = G1 i := fun i i1 i2 => kk i (fun w => by
      rcases List.mem_cons.mp w with w | w
      · exact i1 w
      · have := (hLn i w).1
        omega)
    have hF1 : x_Fin xFL (x_mk z_n22 z_u22 G1) := fun t ht => by
      have h0 : (xFL.all fun t => decide (x_mkv z_n22 z_u22 t.1 t.2.1 = none)) = true := by decide +kernel
      rw [x_mk_o (of_decide_eq_true (List.all_eq_true.mp h0 t ht))]
      exact hF t ht
    have hG1 : x_Fin xGL (x_mk z_n22 z_u22 G1) := fun t ht => by
      have h0 : (xGL.all fun t => decide (x_mkv z_n22 z_u22 t.1 t.2.1 = some ((t.2.2 : Nat) : Int))) = true := by decide +kernel
      exact x_mk_v (of_decide_eq_true (List.all_eq_true.mp h0 t ht))
    have hE1 : cEq m S I (x_mk z_n22 z_u22 G1) := cEq.FR hE kk (fun i hi => by
      rcases List.mem_cons.mp hi with w | w
      · exact Or.inr (by omega)
      · have := (hLn i w).1
        exact Or.inr (by omega))
    have hg : x_gr L (L ++ z_n22) := x_gr.app (fun i hi => by have := hLn i hi; omega)
    have hgr : x_mk z_n22 z_u22 G1 66 8 = ((173 : Nat) : Int) := x_mk_v (by decide +kernel)
    have fin : X mX2_follow 6 mc ms (pFo L G m S I e) 85 [some (vR 66), some (vR 4), some (vI e), o3] [] (L ++ z_n22) (x_mk z_n22 z_u22 G1) (k + 1 + 21) (n + 17 + 32742) := by
      refine l_ch_g85 hL1 hM1 hF1 hG1 hE1 he hb hC hgr (by rw [nn 67 (by decide) (by decide)]; exact hfo) hg (fun i hi => ⟨fun w => ?_, fun w => List.mem_append_left _ w⟩) ?_ (fun e' c => by rw [nn 67 (by decide) (by decide)]; exact o67 e' c) (fun e' c => ?_) (fun e' => by rw [nn 78 (by decide) (by decide), k78]) (fun i i1 i2 => ?_) (hQ.tr (kk.mono (fun i hi => ?_)))
      · rcases List.mem_append.mp w with w | w
        · exact w
        · have := (hLn i w).1
          omega
      · rcases hcap2.2.2 with w | w
        · exact Or.inl w
        · exact Or.inr ⟨by omega, by omega⟩
      · obtain ⟨t1, t2, t3, t4⟩ := oth e' c
        rw [nn 68 (by decide) (by decide), nn 69 (by decide) (by decide), nn 70 (by decide) (by decide), nn 71 (by decide) (by decide)]
        exact ⟨t1, t2, t3, t4⟩
      · rw [nn i (by omega) (by omega)]
        exact hk i (fun w => by simp only [List.mem_cons, List.not_mem_nil, or_false] at w; omega)
      · rcases List.mem_cons.mp hi with w | w
        · rw [w]; decide
        · have := hLn i w
          simp only [List.mem_cons, List.not_mem_nil, or_false]
          omega
    have hN : x_new 173 195 L := c2
    have hch : 66 ∈ L := hL 66 (by decide) (by decide)
    refine x_aloadn (pc := 67) dX2_follow_67 rfl ?_
    refine x_getN (pc := 68) dX2_follow_68 fl_X2_39 k_66 hch (by rw [k66, c1]; decide) ?_
    refine x_nonnullN (pc := 71) dX2_follow_71 ?_
    refine x_aloadn (pc := 74) dX2_follow_74 rfl ?_
    refine y_start ?_
    refine y_newO (q := 173) (pc := 75) dX2_follow_75 rfl inX5 tyX5_ok lc_new_X2_53 ln_X5 lt_X5 (by decide) ftX5 (hN 173 (by decide) (by decide)) (by decide) (by decide +kernel) (by decide +kernel) k_173 ⟨by omega, by omega⟩ ?_
    refine x_dup (pc := 78) dX2_follow_78 (fun h => by cases h) ?_
    refine y_callIN (pc := 79) dX2_follow_79 lk_X2_55 (k_init_173 (List.mem_append.mpr (Or.inr (by decide +kernel))) ((hN.mono (by decide) (by decide)).app (by decide +kernel))) (Or.inr (by decide +kernel)) ⟨by decide, by decide⟩ ⟨by omega, by omega⟩ (Nat.le_of_ble_eq_true rfl) (by decide +kernel) ?_
    refine y_putR (pc := 82) dX2_follow_82 fp_X2_39 k_66 (Or.inl hch) ?_
    exact fin
theorem c_ch_follow {mc ms : Nat} {G : Nat → Nat → Int} (hL : x_SL L) (hF : x_Fin xFL G) (hE : cEq m S I G) (he : e < m) (hC : cCh L m S I G) (hcap : zbad S I e ∨ G 67 e = 1 ∨ (fC L e ≤ mc ∧ fS L e ≤ ms)) :
    CM yX2_follow mX2_follow 6 mc ms [vR 66, vR 4, vI e] L G (pFo L G m S I e) := by
  have hm4 := hE.2.1
  have he4 : e < 4 := by omega
  refine Ct.of_X (μ := mX2_follow) rfl rfl (by decide) (fun h => by cases h) (Nat.le_of_ble_eq_true rfl) rfl ?_
  have hfo : G 67 e = 0 ∨ G 67 e = 1 := by
    rcases (hC.1 e he4).1 with c | ⟨c, _⟩
    · exact Or.inl c
    · exact Or.inr c
  refine l_ch_f0 hL hF he4 hfo (fun h1 => ?_) (fun h0 hF1 => ?_)
  · rcases (hC.1 e he4).1 with c | ⟨c1, c2, c3⟩
    · omega
    · exact ⟨_, rfl, x_gr.rf, hC, c3, FR.rf, hF, Or.inl (Or.inr h1)⟩
  · have hk : FR [67, 68] G (x_up (x_up G 67 e 1) 68 e (-4)) := (FR.rf.up (by decide)).up (by decide)
    have nn : ∀ i, i ≠ 67 → i ≠ 68 → (x_up (x_up G 67 e 1) 68 e (-4)) i = G i := fun i i1 i2 => hk i (fun w => by simp only [List.mem_cons, List.not_mem_nil, or_false] at w; omega)
    have o67 : ∀ e', e' ≠ e → (x_up (x_up G 67 e 1) 68 e (-4)) 67 e' = G 67 e' := fun e' c => by rw [x_up_ne (by decide), x_up_k c]
    have s67 : (x_up (x_up G 67 e 1) 68 e (-4)) 67 e = 1 := by rw [x_up_ne (by decide), x_up_s]
    have oth : cOth e G (x_up (x_up G 67 e 1) 68 e (-4)) := (cOth.rf.up).up
    have hE1 : cEq m S I (x_up (x_up G 67 e 1) 68 e (-4)) := cEq.FR hE hk (by decide)
    refine l_ch_f43 hL hF1 hE1 he (fun hbad => ?_) (fun hb => ?_) 4 0 rfl (fun v hv => absurd hv (Nat.not_lt_zero v))
    · refine ⟨-4, rfl, x_gr.rf, ⟨fun e' he' => ⟨?_, ?_⟩, ?_⟩, Or.inl ⟨hbad, rfl⟩, hk.mono (by decide), hF1, Or.inl (Or.inl hbad)⟩
      · by_cases c : e' = e
        · subst c
          exact Or.inr ⟨s67, he, Or.inl ⟨hbad, x_up_s⟩⟩
        · obtain ⟨t1, t2, t3, t4⟩ := oth e' c
          rcases (hC.1 e' he').1 with c1 | ⟨c1, c2, c3⟩
          · exact Or.inl (by rw [o67 e' c]; exact c1)
          · refine Or.inr ⟨by rw [o67 e' c]; exact c1, c2, ?_⟩
            rcases c3 with ⟨d1, d2⟩ | ⟨d1, d2⟩
            · exact Or.inl ⟨d1, by rw [t1]; exact d2⟩
            · refine Or.inr ⟨d1, ?_⟩
              rw [t1]
              exact d2.cg (fun _ w => w) t1 t2 t3 t4 (by rw [nn 78 (by decide) (by decide)]) (fun i => by rw [nn (169 + e') (by omega) (by omega)])
      · rcases (hC.1 e' he').2 with c | c
        · exact Or.inl ⟨by rw [nn 78 (by decide) (by decide)]; exact c.1, c.2⟩
        · exact Or.inr ⟨by rw [nn 78 (by decide) (by decide)]; exact c.1, c.2⟩
      · rcases hC.2 with ⟨c1, c2, c3⟩ | ⟨c1, c2⟩
        · refine Or.inl ⟨by rw [nn 66 (by decide) (by decide)]; exact c1, c2, fun t ht => ?_⟩
          have := x_GL169 t ht
          rw [nn t.1 (by omega) (by omega)]
          exact c3 t ht
        · exact Or.inr ⟨by rw [nn 66 (by decide) (by decide)]; exact c1, c2⟩
    · have hcap' : 0 + fC L e ≤ mc ∧ 0 + fS L e ≤ ms := by
        rcases hcap with w | w | w
        · exact absurd w hb
        · omega
        · omega
      exact l_ch_g67 hL hF1 hE1 he hb hC s67 hcap' o67 oth hk
end XF8

