/-! the class: an equation is chased: what is kept of all chases -/
def x_gr (L L' : List Nat) : Prop := (∀ i, i ∈ L → i ∈ L') ∧ ∀ i, i ∈ L' → i ∈ L ∨ (169 ≤ i ∧ i < 195)
theorem x_gr.rf {L : List Nat} : x_gr L L := ⟨fun _ h => h, fun _ h => Or.inl h⟩
theorem x_gr.tr {L L1 L2 : List Nat} (h : x_gr L L1) (k : x_gr L1 L2) : x_gr L L2 := ⟨fun i w => k.1 i (h.1 i w), fun i w => by
  rcases k.2 i w with w | w
  · exact h.2 i w
  · exact Or.inr w⟩
theorem x_gr.app {L T : List Nat} (h : ∀ i ∈ T, 169 ≤ i ∧ i < 195) : x_gr L (L ++ T) := ⟨fun _ w => List.mem_append_left _ w, fun i w => by
  rcases List.mem_append.mp w with w | w
  · exact Or.inl w
  · exact Or.inr (h i w)⟩
theorem x_mk_FR {T nw : List Nat} {G : Nat → Nat → Int} {us : List (Nat × Nat × Int)} (h1 : ∀ i ∈ nw, i ∈ T) (h2 : ∀ t ∈ us, t.1 ∈ T) : FR T G (x_mk nw us G) := by
  induction us with
  | nil =>
    intro i hi
    funext j
    rw [x_mk, if_neg (fun w => hi (h1 i w))]
  | cons t us ih =>
    intro i hi
    funext j
    rw [x_mk, if_neg (fun (w : i = t.1 ∧ j = t.2.1) => hi (by rw [w.1]; exact h2 t List.mem_cons_self))]
    exact congrFun (ih (fun t ht => h2 t (List.mem_cons_of_mem _ ht)) i hi) j
abbrev z_fT : List Nat := [66, 67, 68, 69, 70, 71, 73, 74, 75, 76, 77, 78, 169, 170, 171, 172, 173, 174, 175, 176, 177, 178, 179, 180, 181, 182, 183, 184, 185, 186, 187, 188, 189, 190, 191, 192, 193, 194]
def cCe (L : List Nat) (m : Nat) (S : Nat → Nat) (I : Nat → Nat → Nat) (e : Nat) (G : Nat → Nat → Int) : Prop := G 67 e = 0 ∨ (G 67 e = 1 ∧ e < m ∧ ((zbad S I e ∧ G 68 e = -4) ∨ (¬ zbad S I e ∧ cRc L S I e (G 68 e) G)))
def cSt (L : List Nat) (e : Nat) (G : Nat → Nat → Int) : Prop := (G 78 e = ((169 + e : Nat) : Int) ∧ 169 + e ∈ L) ∨ (G 78 e = ((79 + e : Nat) : Int) ∧ 169 + e ∉ L)
def cGp (L : List Nat) (G : Nat → Nat → Int) : Prop := (G 66 8 = ((173 : Nat) : Int) ∧ x_GM L ∧ x_Fin xGL G) ∨ (G 66 8 = -1 ∧ x_new 173 195 L)
def cCh (L : List Nat) (m : Nat) (S : Nat → Nat) (I : Nat → Nat → Nat) (G : Nat → Nat → Int) : Prop := (∀ e, e < 4 → cCe L m S I e G ∧ cSt L e G) ∧ cGp L G
section XF7
variable {L : List Nat} {S : Nat → Nat} {I : Nat → Nat → Nat} {e m : Nat}
theorem cRc.self {x : Int} {G : Nat → Nat → Int} (h : cRc L S I e x G) : G 68 e = x := by
  rcases h with ⟨_, h1, h2⟩ | ⟨_, h1, h2, _⟩
  · rw [h1, h2]
  · rw [h1, h2]
theorem cRc.cg {L' : List Nat} {x : Int} {G G' : Nat → Nat → Int} (h : cRc L S I e x G) (hL : ∀ i, i ∈ L → i ∈ L') (h1 : G' 68 e = G 68 e) (h2 : G' 69 e = G 69 e) (h3 : G' 70 e = G 70 e) (h4 : G' 71 e = G 71 e) (h5 : G' 78 e = G 78 e) (h6 : ∀ i, G' (169 + e) i = G (169 + e) i) : cRc L' S I e x G' := by
  rcases h with ⟨a1, a2, a3⟩ | ⟨a1, a2, a3, a4, a5, a6⟩
  · exact Or.inl ⟨a1, a2, by rw [h1]; exact a3⟩
  · refine Or.inr ⟨a1, a2, by rw [h1]; exact a3, by rw [h2]; exact a4, ?_, by rw [h4]; exact a6⟩
    rcases a5 with ⟨b1, b2⟩ | ⟨D, k, b1, b2, b3, b4, b5, b6⟩
    · exact Or.inl ⟨b1, by rw [h3]; exact b2⟩
    · exact Or.inr ⟨D, k, b1, b2, by rw [h3]; exact b3, hL _ b4, by rw [h5]; exact b5, fun i hi => by rw [h6]; exact b6 i hi⟩
theorem cCh.FR {L' T : List Nat} {G G' : Nat → Nat → Int} (h : cCh L m S I G) (hL : ∀ i, i ∈ L → i ∈ L') (hN : ∀ i, i ∈ L' → i ∈ L ∨ i < 169) (k : FR T G G') (hT : ∀ i, i ∈ T → i ∉ z_fT) : cCh L' m S I G' := by
  have nn : ∀ i, i ∈ z_fT → G' i = G i := fun i hi => k i (fun w => hT i w hi)
  refine ⟨fun e he => ⟨?_, ?_⟩, ?_⟩
  · rcases (h.1 e he).1 with c | ⟨c1, c2, c3⟩
    · exact Or.inl (by rw [nn 67 (by decide)]; exact c)
    · refine Or.inr ⟨by rw [nn 67 (by decide)]; exact c1, c2, ?_⟩
      rcases c3 with ⟨d1, d2⟩ | ⟨d1, d2⟩
      · exact Or.inl ⟨d1, by rw [nn 68 (by decide)]; exact d2⟩
      · refine Or.inr ⟨d1, ?_⟩
        rw [nn 68 (by decide)]
        refine d2.cg hL (by rw [nn 68 (by decide)]) (by rw [nn 69 (by decide)]) (by rw [nn 70 (by decide)]) (by rw [nn 71 (by decide)]) (by rw [nn 78 (by decide)]) (fun i => ?_)
        rw [nn (169 + e) (by simp only [List.mem_cons, List.not_mem_nil, or_false]; omega)]
  · rcases (h.1 e he).2 with ⟨c1, c2⟩ | ⟨c1, c2⟩
    · exact Or.inl ⟨by rw [nn 78 (by decide)]; exact c1, hL _ c2⟩
    · refine Or.inr ⟨by rw [nn 78 (by decide)]; exact c1, fun w => ?_⟩
      rcases hN _ w with w | w
      · exact c2 w
      · omega
  · rcases h.2 with ⟨c1, c2, c3⟩ | ⟨c1, c2⟩
    · refine Or.inl ⟨by rw [nn 66 (by decide)]; exact c1, fun i i1 i2 => hL i (c2 i i1 i2), fun t ht => ?_⟩
      have hall : ∀ t ∈ xGL, t.1 ∈ z_fT := by decide
      rw [nn t.1 (hall t ht)]
      exact c3 t ht
    · refine Or.inr ⟨by rw [nn 66 (by decide)]; exact c1, fun i i1 i2 w => ?_⟩
      rcases hN _ w with w | w
      · exact c2 i i1 i2 w
      · omega
/-- room that a chase needs -/
def fC (L : List Nat) (e : Nat) : Nat := (if 169 + e ∈ L then 0 else 1) + (if 173 ∈ L then 0 else 22)
def fS (L : List Nat) (e : Nat) : Nat := (if 169 + e ∈ L then 0 else 1500) + (if 173 ∈ L then 0 else 32759)
abbrev zFO (L L' : List Nat) (G0 : Nat → Nat → Int) (m : Nat) (S : Nat → Nat) (I : Nat → Nat → Nat) (e : Nat) (x : Int) (G' : Nat → Nat → Int) : Prop := x_gr L L' ∧ cCh L' m S I G' ∧ ((zbad S I e ∧ x = -4) ∨ (¬ zbad S I e ∧ cRc L' S I e x G')) ∧ FR z_fT G0 G' ∧ x_Fin xFL G' ∧ ((zbad S I e ∨ G0 67 e = 1) ∨ (169 + e ∈ L' ∧ 173 ∈ L'))
def pFo (L : List Nat) (G0 : Nat → Nat → Int) (m : Nat) (S : Nat → Nat) (I : Nat → Nat → Nat) (e : Nat) : x_Q := fun v L' G' => ∃ x, v = some (vI x) ∧ zFO L L' G0 m S I e x G'
theorem l_ch_g85 {mc ms k n : Nat} {L1 : List Nat} {o3 : Option (Nat × Int)} {G G1 : Nat → Nat → Int} (hL : x_SL L1) (hM : x_GM L1) (hF : x_Fin xFL G1) (hG : x_Fin xGL G1) (hE : cEq m S I G1) (he : e < m) (hb : ¬ zbad S I e) (hC : cCh L m S I G) (hgr : G1 66 8 = ((173 : Nat) : Int)) (hfo : G1 67 e = 1)
    (hg : x_gr L L1) (hq : ∀ i, i < 173 → (i ∈ L1 ↔ i ∈ L)) (hcap : 169 + e ∈ L ∨ (k + 1 ≤ mc ∧ n + 1500 ≤ ms)) (o67 : ∀ e', e' ≠ e → G1 67 e' = G 67 e') (oth : cOth e G G1) (os : ∀ e', G1 78 e' = G 78 e') (ocell : ∀ i, 169 ≤ i → i < 173 → G1 i = G i) (hQ : FR z_fT G G1) :
    X mX2_follow 6 mc ms (pFo L G m S I e) 85 [some (vR 66), some (vR 4), some (vI e), o3] [] L1 G1 k n := by
  have hm4 := hE.2.1
  have he4 : e < 4 := by omega
  have hst : (G1 78 e = ((169 + e : Nat) : Int) ∧ 169 + e ∈ L1) ∨ (G1 78 e = ((79 + e : Nat) : Int) ∧ 169 + e ∉ L1 ∧ k + 1 ≤ mc ∧ n + 1500 ≤ ms) := by
    rw [os]
    rcases (hC.1 e he4).2 with ⟨c1, c2⟩ | ⟨c1, c2⟩
    · exact Or.inl ⟨c1, (hq _ (by omega)).mpr c2⟩
    · rcases hcap with w | w
      · exact absurd w c2
      · exact Or.inr ⟨c1, fun w => c2 ((hq _ (by omega)).mp w), w.1, w.2⟩
  refine X.imp (fun v L' G' w => ?_) (l_ch_f85 (G0 := G1) hL hM hF hG hE he hb rfl hst hgr cOth.rf (fun _ _ => rfl) FR.rf)
  obtain ⟨x, rfl, w1, w2, w3, w4, w5, w6, w7, w8, w9⟩ := w
  have g1 : x_gr L1 L' := by
    rcases w1 with rfl | rfl
    · exact x_gr.rf
    · exact x_gr.app (fun i hi => by rw [List.mem_singleton.mp hi]; omega)
  have nn : ∀ i, i ∉ (78 :: z_foS (169 + e)) → G' i = G1 i := w7
  have n67 : G' 67 = G1 67 := nn 67 (fun w => by simp only [List.mem_cons, List.not_mem_nil, or_false] at w; omega)
  have n66 : G' 66 = G1 66 := nn 66 (fun w => by simp only [List.mem_cons, List.not_mem_nil, or_false] at w; omega)
  have g := hg.tr g1
  refine ⟨x, rfl, g, ⟨fun e' he' => ⟨?_, ?_⟩, Or.inl ⟨by rw [n66]; exact hgr, fun i i1 i2 => g1.1 i (hM i i1 i2), w9⟩⟩, Or.inr ⟨hb, w3⟩, hQ.tr (w7.mono (fun i hi => ?_)), w8, Or.inr ⟨w2, g1.1 173 (hM 173 (by decide) (by decide))⟩⟩
  · by_cases c : e' = e
    · subst c
      exact Or.inr ⟨by rw [n67]; exact hfo, he, Or.inr ⟨hb, by rw [w3.self]; exact w3⟩⟩
    · obtain ⟨t1, t2, t3, t4⟩ := oth e' c
      obtain ⟨s1, s2, s3, s4⟩ := w4 e' c
      rcases (hC.1 e' he').1 with c1 | ⟨c1, c2, c3⟩
      · exact Or.inl (by rw [n67, o67 e' c]; exact c1)
      · refine Or.inr ⟨by rw [n67, o67 e' c]; exact c1, c2, ?_⟩
        rcases c3 with ⟨d1, d2⟩ | ⟨d1, d2⟩
        · exact Or.inl ⟨d1, by rw [s1, t1]; exact d2⟩
        · refine Or.inr ⟨d1, ?_⟩
          rw [s1, t1]
          refine d2.cg g.1 (by rw [s1, t1]) (by rw [s2, t2]) (by rw [s3, t3]) (by rw [s4, t4]) (by rw [w5 e' c, os]) (fun i => ?_)
          rw [nn (169 + e') (fun w => by simp only [List.mem_cons, List.not_mem_nil, or_false] at w; omega), ocell _ (by omega) (by omega)]
  · by_cases c : e' = e
    · subst c
      exact Or.inl ⟨w6, w2⟩
    · rcases (hC.1 e' he').2 with ⟨c1, c2⟩ | ⟨c1, c2⟩
      · exact Or.inl ⟨by rw [w5 e' c, os]; exact c1, g.1 _ c2⟩
      · refine Or.inr ⟨by rw [w5 e' c, os]; exact c1, fun w => ?_⟩
        have w : 169 + e' ∈ L1 := by
          rcases w1 with rfl | rfl
          · exact w
          · rcases List.mem_append.mp w with w | w
            · exact w
            · have := List.mem_singleton.mp w
              omega
        exact c2 ((hq _ (by omega)).mp w)
  · simp only [List.mem_cons, List.not_mem_nil, or_false] at hi ⊢
    omega
end XF7

