/-! the reference: the number of the equation that stands there -/
def zhf (c h : Int) : List Nat → Int
  | [] => h
  | x :: A => zhf c (c * h + ((x : Nat) : Int) + 1) A
def zhb (s : zSt) : Nat := (zhf 37 (zhf 31 ((s.1.length : Nat) : Int) s.1) s.2 % 2147483648 % 4096).toNat
theorem zhb_i (s : zSt) : zhf 37 (zhf 31 ((s.1.length : Nat) : Int) s.1) s.2 % 2147483648 % 4096 = ((zhb s : Nat) : Int) ∧ zhb s < 4096 := by
  unfold zhb
  omega
def mGm (ns : List zSt) (G : Nat → Nat → Int) : Prop := G 127 33 = ((ns.length : Nat) : Int) ∧ mGn ns G ∧ ∃ t, zHT zhb ns t ∧ ∀ i, i < 4096 → G 154 i = ((t i : Nat) : Int) - 1
theorem mGm.FM {ns : List zSt} {T F : List Nat} {G G' : Nat → Nat → Int} (h : mGm ns G) (k : FM T F G G') (h1 : 149 ∉ T) (h2 : 150 ∉ T) (h3 : 148 ∉ T) (h4 : 154 ∉ T) (h5 : 127 ∉ T) (h6 : 33 ∉ F) : mGm ns G' := by
  obtain ⟨a1, a2, t, a3, a4⟩ := h
  exact ⟨by rw [k 127 33 h5 (fun _ => h6)]; exact a1, a2.FM k h1 h2 h3, t, a3, fun i hi => by rw [k 154 _ h4 (fun e => absurd e (by decide))]; exact a4 i hi⟩
abbrev z_noS : List Nat := [148, 149, 150, 154]
def mNo (ns : List zSt) (s : zSt) (G0 G' : Nat → Nat → Int) (x : Int) : Prop :=
  (s ∈ ns ∧ x = ((zix ns s : Nat) : Int) ∧ G' = G0) ∨ (s ∉ ns ∧ ns.length = 1500 ∧ x = -1 ∧ G' = G0) ∨ (s ∉ ns ∧ ns.length < 1500 ∧ x = ((ns.length : Nat) : Int) ∧ mGm (ns ++ [s]) G' ∧ FM z_noS [33] G0 G')
abbrev pNo (L : List Nat) (G0 : Nat → Nat → Int) (ns : List zSt) (s : zSt) : x_Q := qI L fun x G' => mNo ns s G0 G' x ∧ x_Fin xFL G'
section XNO
variable {L : List Nat} {ns : List zSt} {A B : List Nat} {s : zSt}
/-- the items are copied -/
def mCpi (n i : Nat) (l : List Nat) (G1 G : Nat → Nat → Int) : Prop := FM [148] [] G1 G ∧ (∀ x, x < 24 * n → G 148 x = G1 148 x) ∧ ∀ j, j < i → G 148 (24 * n + j) = ((l.getD j 0 : Nat) : Int)
theorem mCpi.put {n i : Nat} {l : List Nat} {G1 G : Nat → Nat → Int} (h : mCpi n i l G1 G) : mCpi n (i + 1) l G1 (x_up G 148 (24 * n + i) ((l.getD i 0 : Nat) : Int)) := by
  obtain ⟨h1, h2, h3⟩ := h
  refine ⟨h1.upA (by decide), fun x hx => by rw [x_up_k (by omega)]; exact h2 x hx, fun j hj => ?_⟩
  by_cases c : j = i
  · rw [c, x_up_s]
  · rw [x_up_k (by omega)]; exact h3 j (by omega)
theorem l_mo_noB {Q : x_Q} {n sl : Nat} {G1 : Nat → Nat → Int} (hL : x_SL L) (hab : mAB A B G1) (hl : A.length + B.length ≤ 24) (hn : n < 1500) (hm : G1 127 33 = ((n : Nat) : Int))
    (cont : ∀ G, mCpi n (A ++ B).length (A ++ B) G1 G → x_Fin xFL G → X mX12_numberOf 1 0 0 Q 253 [some (vR 127), some (vI sl), some (vI B.length)] [] L G 0 0) :
    ∀ (r i : Nat) (G : Nat → Nat → Int), i + r = B.length → mCpi n (A.length + i) (A ++ B) G1 G → x_Fin xFL G → X mX12_numberOf 1 0 0 Q 214 [some (vR 127), some (vI sl), some (vI i)] [] L G 0 0 := by
  intro r
  induction r with
  | zero =>
    intro i G hi hc hF
    have hi : i = B.length := by omega
    subst hi
    obtain ⟨b1, b2, b3, b4⟩ := hab.FM hc.1 (by decide) (by decide) (by decide) (by decide) (by decide)
    refine x_iloadn (pc := 214) dX12_numberOf_214 rfl ?_
    refine x_aloadn (pc := 215) dX12_numberOf_215 rfl ?_
    refine x_getI (pc := 216) dX12_numberOf_216 fl_X12_227 k_127 (hL 127 (by decide) (by decide)) ?_
    rw [b2]
    refine x_cge (tgt := 253) (pc := 219) dX12_numberOf_219 (by decide) (by omega) (fun c_219 => ?_) (fun c_219 => ?_)
    rotate_left
    · skip
      exact absurd c_219 (by omega)
    exact cont G (by rw [List.length_append]; exact hc) hF
  | succ r ih =>
    intro i G hi hc hF
    obtain ⟨b1, b2, b3, b4⟩ := hab.FM hc.1 (by decide) (by decide) (by decide) (by decide) (by decide)
    have hm' : G 127 33 = ((n : Nat) : Int) := by rw [hc.1 _ _ (by decide) (fun _ => by decide)]; exact hm
    have hx := b4 i (by omega)
    have hij : 24 * ((n : Nat) : Int) + ((A.length : Nat) : Int) + ((i : Nat) : Int) = ((24 * n + (A.length + i) : Nat) : Int) := by omega
    have hg : (A ++ B).getD (A.length + i) 0 = B.getD i 0 := by rw [zgd_r (by omega), show A.length + i - A.length = i by omega]
    have hp := hc.put
    rw [hg] at hp
    refine x_iloadn (pc := 214) dX12_numberOf_214 rfl ?_
    refine x_aloadn (pc := 215) dX12_numberOf_215 rfl ?_
    refine x_getI (pc := 216) dX12_numberOf_216 fl_X12_227 k_127 (hL 127 (by decide) (by decide)) ?_
    rw [b2]
    refine x_cge (tgt := 253) (pc := 219) dX12_numberOf_219 (by decide) (by omega) (fun c_219 => ?_) (fun c_219 => ?_)
    · skip
      exact absurd c_219 (by omega)
    refine x_aloadn (pc := 222) dX12_numberOf_222 rfl ?_
    refine x_getR (148) (pc := 223) dX12_numberOf_223 fl_X12_71 k_127 (hL 127 (by decide) (by decide)) (f_127_26 hF) ?_
    refine x_bipush (pc := 226) dX12_numberOf_226 (by decide) ?_
    refine x_aloadn (pc := 228) dX12_numberOf_228 rfl ?_
    refine x_getI (pc := 229) dX12_numberOf_229 fl_X12_234 k_127 (hL 127 (by decide) (by decide)) ?_
    rw [hm']
    refine x_imul (pc := 232) dX12_numberOf_232 ?_
    refine x_aloadn (pc := 233) dX12_numberOf_233 rfl ?_
    refine x_getI (pc := 234) dX12_numberOf_234 fl_X12_224 k_127 (hL 127 (by decide) (by decide)) ?_
    rw [b1]
    refine x_iadd (pc := 237) dX12_numberOf_237 ?_
    refine x_iloadn (pc := 238) dX12_numberOf_238 rfl ?_
    refine x_iadd (pc := 239) dX12_numberOf_239 ?_
    rw [hij]
    refine x_aloadn (pc := 240) dX12_numberOf_240 rfl ?_
    refine x_getR (156) (pc := 241) dX12_numberOf_241 fl_X12_96 k_127 (hL 127 (by decide) (by decide)) (f_127_36 hF) ?_
    refine x_iloadn (pc := 244) dX12_numberOf_244 rfl ?_
    refine x_iald (i) (pc := 245) dX12_numberOf_245 k_156 (hL 156 (by decide) (by decide)) (⟨by omega, by omega, by decide⟩) ?_
    rw [hx]
    refine x_iastF (24 * n + (A.length + i)) (pc := 246) dX12_numberOf_246 k_148 (hL 148 (by decide) (by decide)) (⟨by omega, by omega, by decide⟩) hF (fun hF => ?_)
    refine x_iinc (pc := 247) dX12_numberOf_247 rfl (by decide) rfl ?_
    refine x_goto (tgt := 214) (pc := 250) dX12_numberOf_250 (by decide) ?_
    exact ih (i + 1) _ (by omega) hp hF
theorem l_mo_noA {Q : x_Q} {n sl : Nat} {G1 : Nat → Nat → Int} (hL : x_SL L) (hab : mAB A B G1) (hl : A.length + B.length ≤ 24) (hn : n < 1500) (hm : G1 127 33 = ((n : Nat) : Int))
    (cont : ∀ G, mCpi n (A ++ B).length (A ++ B) G1 G → x_Fin xFL G → X mX12_numberOf 1 0 0 Q 253 [some (vR 127), some (vI sl), some (vI B.length)] [] L G 0 0) :
    ∀ (r i : Nat) (G : Nat → Nat → Int), i + r = A.length → mCpi n i (A ++ B) G1 G → x_Fin xFL G → X mX12_numberOf 1 0 0 Q 178 [some (vR 127), some (vI sl), some (vI i)] [] L G 0 0 := by
  intro r
  induction r with
  | zero =>
    intro i G hi hc hF
    have hi : i = A.length := by omega
    subst hi
    obtain ⟨b1, b2, b3, b4⟩ := hab.FM hc.1 (by decide) (by decide) (by decide) (by decide) (by decide)
    refine x_iloadn (pc := 178) dX12_numberOf_178 rfl ?_
    refine x_aloadn (pc := 179) dX12_numberOf_179 rfl ?_
    refine x_getI (pc := 180) dX12_numberOf_180 fl_X12_224 k_127 (hL 127 (by decide) (by decide)) ?_
    rw [b1]
    refine x_cge (tgt := 212) (pc := 183) dX12_numberOf_183 (by decide) (by omega) (fun c_183 => ?_) (fun c_183 => ?_)
    rotate_left
    · skip
      exact absurd c_183 (by omega)
    refine x_iconst (pc := 212) dX12_numberOf_212 ?_
    refine x_istoren (pc := 213) dX12_numberOf_213 rfl (by decide) rfl ?_
    exact l_mo_noB hL hab hl hn hm cont B.length 0 G (Nat.zero_add _) hc hF
  | succ r ih =>
    intro i G hi hc hF
    obtain ⟨b1, b2, b3, b4⟩ := hab.FM hc.1 (by decide) (by decide) (by decide) (by decide) (by decide)
    have hm' : G 127 33 = ((n : Nat) : Int) := by rw [hc.1 _ _ (by decide) (fun _ => by decide)]; exact hm
    have hx := b3 i (by omega)
    have hij : 24 * ((n : Nat) : Int) + ((i : Nat) : Int) = ((24 * n + i : Nat) : Int) := by omega
    have hg : (A ++ B).getD i 0 = A.getD i 0 := zgd_l (by omega)
    have hp := hc.put
    rw [hg] at hp
    refine x_iloadn (pc := 178) dX12_numberOf_178 rfl ?_
    refine x_aloadn (pc := 179) dX12_numberOf_179 rfl ?_
    refine x_getI (pc := 180) dX12_numberOf_180 fl_X12_224 k_127 (hL 127 (by decide) (by decide)) ?_
    rw [b1]
    refine x_cge (tgt := 212) (pc := 183) dX12_numberOf_183 (by decide) (by omega) (fun c_183 => ?_) (fun c_183 => ?_)
    · skip
      exact absurd c_183 (by omega)
    refine x_aloadn (pc := 186) dX12_numberOf_186 rfl ?_
    refine x_getR (148) (pc := 187) dX12_numberOf_187 fl_X12_71 k_127 (hL 127 (by decide) (by decide)) (f_127_26 hF) ?_
    refine x_bipush (pc := 190) dX12_numberOf_190 (by decide) ?_
    refine x_aloadn (pc := 192) dX12_numberOf_192 rfl ?_
    refine x_getI (pc := 193) dX12_numberOf_193 fl_X12_234 k_127 (hL 127 (by decide) (by decide)) ?_
    rw [hm']
    refine x_imul (pc := 196) dX12_numberOf_196 ?_
    refine x_iloadn (pc := 197) dX12_numberOf_197 rfl ?_
    refine x_iadd (pc := 198) dX12_numberOf_198 ?_
    rw [hij]
    refine x_aloadn (pc := 199) dX12_numberOf_199 rfl ?_
    refine x_getR (155) (pc := 200) dX12_numberOf_200 fl_X12_93 k_127 (hL 127 (by decide) (by decide)) (f_127_35 hF) ?_
    refine x_iloadn (pc := 203) dX12_numberOf_203 rfl ?_
    refine x_iald (i) (pc := 204) dX12_numberOf_204 k_155 (hL 155 (by decide) (by decide)) (⟨by omega, by omega, by decide⟩) ?_
    rw [hx]
    refine x_iastF (24 * n + i) (pc := 205) dX12_numberOf_205 k_148 (hL 148 (by decide) (by decide)) (⟨by omega, by omega, by decide⟩) hF (fun hF => ?_)
    refine x_iinc (pc := 206) dX12_numberOf_206 rfl (by decide) rfl ?_
    refine x_goto (tgt := 178) (pc := 209) dX12_numberOf_209 (by decide) ?_
    exact ih (i + 1) _ (by omega) hp hF
/-- the tables behind a new one -/
theorem l_mo_noE {i sl : Nat} {t : Nat → Nat} {G G3 : Nat → Nat → Int} (hL : x_SL L) (hF : x_Fin xFL G3) (hs : s = (A, B)) (hno : s ∉ ns) (hn15 : ns.length < 1500) (hl24 : A.length + B.length ≤ 24) (g2 : mGn ns G) (hvn : ∀ u, u ∈ ns → zvS u) (ht : zHT zhb ns t) (hts : ∀ i, i < 4096 → G 154 i = ((t i : Nat) : Int) - 1) (hi : i < 4096) (hsl : sl = (zhb s + i) % 4096) (hp : ∀ i', i' < i → t ((zhb s + i') % 4096) ≠ 0) (h0 : t sl = 0)
    (hc : mCpi ns.length (A ++ B).length (A ++ B) (x_up (x_up (x_up G 154 sl ((ns.length : Nat) : Int)) 149 ns.length ((A.length : Nat) : Int)) 150 ns.length (((A.length : Nat) : Int) + ((B.length : Nat) : Int))) G3) (hm3 : G3 127 33 = ((ns.length : Nat) : Int)) :
    X mX12_numberOf 1 0 0 (pNo L G ns s) 253 [some (vR 127), some (vI sl), some (vI B.length)] [] L G3 0 0 := by
  obtain ⟨c1, c2, c3⟩ := hc
  have q : FM [154, 149, 150] [] G (x_up (x_up (x_up G 154 sl ((ns.length : Nat) : Int)) 149 ns.length ((A.length : Nat) : Int)) 150 ns.length (((A.length : Nat) : Int) + ((B.length : Nat) : Int))) := ((FM.rf.upA (by decide)).upA (by decide)).upA (by decide)
  have hgn : mGn (ns ++ [s]) G3 := fun k u hk => by
    rw [c1 149 _ (by decide) (fun e => absurd e (by decide)), c1 150 _ (by decide) (fun e => absurd e (by decide)), x_up_ne (show 149 ≠ 150 by decide)]
    rw [List.getElem?_append] at hk
    split at hk
    · rename_i hkl
      obtain ⟨d1, d2, d3⟩ := g2 k u hk
      refine ⟨by rw [x_up_k (by omega), x_up_ne (by decide)]; exact d1, by rw [x_up_k (by omega), x_up_ne (by decide), x_up_ne (by decide)]; exact d2, fun j hj => ?_⟩
      have hu24 := (hvn u (List.mem_of_getElem? hk)).2.2.1
      rw [c2 _ (by omega), x_up_ne (by decide), x_up_ne (by decide), x_up_ne (by decide)]; exact d3 j hj
    · rename_i hkl
      have hk0 : k - ns.length = 0 := by
        rcases Nat.eq_zero_or_pos (k - ns.length) with q | q
        · exact q
        · rw [List.getElem?_eq_none (by rw [List.length_singleton]; omega)] at hk; cases hk
      rw [hk0] at hk
      have eu : s = u := by simpa using hk
      have ek : k = ns.length := by omega
      rw [← eu, hs, ek]
      refine ⟨x_up_s, by rw [x_up_s]; exact (Int.natCast_add _ _).symm, fun j hj => c3 j (by rw [List.length_append]; exact hj)⟩
  have hht : zHT zhb (ns ++ [s]) (zup t sl (ns.length + 1)) := zHT_new ht hi hp (by rw [← hsl]; exact h0) (by rw [← hsl]; exact zups) (fun x hx => zupk (by rw [hsl]; exact hx))
  have q3 : FM z_noS [33] G G3 := (q.mono (by decide) (by decide)).tr (c1.mono (by decide) (by decide))
  refine x_aloadn (pc := 253) dX12_numberOf_253 rfl ?_
  refine x_dup (pc := 254) dX12_numberOf_254 (fun h => by cases h) ?_
  refine x_getI (pc := 255) dX12_numberOf_255 fl_X12_234 k_127 (hL 127 (by decide) (by decide)) ?_
  rw [hm3]
  refine x_iconst (pc := 258) dX12_numberOf_258 ?_
  refine x_iadd (pc := 259) dX12_numberOf_259 ?_
  refine x_putIF (pc := 260) dX12_numberOf_260 fp_X12_234 k_127 (hL 127 (by decide) (by decide)) hF (fun hF => ?_)
  refine x_aloadn (pc := 263) dX12_numberOf_263 rfl ?_
  refine x_getI (pc := 264) dX12_numberOf_264 fl_X12_234 k_127 (hL 127 (by decide) (by decide)) ?_
  rw [x_up_s]
  refine x_iconst (pc := 267) dX12_numberOf_267 ?_
  refine x_isub (pc := 268) dX12_numberOf_268 ?_
  rw [show ((ns.length : Nat) : Int) + 1 - 1 = ((ns.length : Nat) : Int) by omega]
  refine x_rI (pc := 269) dX12_numberOf_269 rfl ?_
  refine ⟨Or.inr (Or.inr ⟨hno, hn15, rfl, ⟨by rw [x_up_s, List.length_append]; rfl, hgn.FM (T := []) (F := [33]) (FM.rf.upF (by decide)) (by decide) (by decide) (by decide), _, hht, fun x hx => ?_⟩, q3.upF (by decide)⟩), hF⟩
  rw [x_up_ne (by decide), c1 154 _ (by decide) (fun e => absurd e (by decide)), x_up_ne (by decide), x_up_ne (by decide)]
  by_cases w : x = sl
  · rw [w, x_up_s, zups]; omega
  · rw [x_up_k w, zupk w]; exact hts x hx
theorem l_mo_noN {i sl : Nat} {o2 : Option (Nat × Int)} {t : Nat → Nat} {G : Nat → Nat → Int} (hL : x_SL L) (hF : x_Fin xFL G) (hs : s = (A, B)) (hv : zvS s) (hab : mAB A B G) (hg : mGm ns G) (hn : ns.length ≤ 1500) (hno : s ∉ ns) (hvn : ∀ u, u ∈ ns → zvS u) (ht : zHT zhb ns t) (hts : ∀ i, i < 4096 → G 154 i = ((t i : Nat) : Int) - 1) (hi : i < 4096) (hsl : sl = (zhb s + i) % 4096) (hp : ∀ i', i' < i → t ((zhb s + i') % 4096) ≠ 0) (h0 : t sl = 0) :
    X mX12_numberOf 1 0 0 (pNo L G ns s) 107 [some (vR 127), some (vI sl), o2] [] L G 0 0 := by
  obtain ⟨g1, g2, _⟩ := hg
  obtain ⟨b1, b2, b3, b4⟩ := id hab
  have hsl2 : sl < 4096 := by omega
  have hts0 := hts sl hsl2
  rw [h0] at hts0
  have hl24 : A.length + B.length ≤ 24 := by have := hv.2.2.1; rw [hs] at this; exact this
  have q : FM [154, 149, 150] [] G (x_up (x_up (x_up G 154 sl ((ns.length : Nat) : Int)) 149 ns.length ((A.length : Nat) : Int)) 150 ns.length (((A.length : Nat) : Int) + ((B.length : Nat) : Int))) := ((FM.rf.upA (by decide)).upA (by decide)).upA (by decide)
  refine x_aloadn (pc := 107) dX12_numberOf_107 rfl ?_
  refine x_getR (154) (pc := 108) dX12_numberOf_108 fl_X12_90 k_127 (hL 127 (by decide) (by decide)) (f_127_32 hF) ?_
  refine x_iloadn (pc := 111) dX12_numberOf_111 rfl ?_
  refine x_iald (sl) (pc := 112) dX12_numberOf_112 k_154 (hL 154 (by decide) (by decide)) (⟨by omega, by omega, by decide⟩) ?_
  rw [hts0]
  refine x_ilt (tgt := 123) (pc := 113) dX12_numberOf_113 (by decide) (by omega) (fun c_113 => ?_) (fun c_113 => ?_)
  rotate_left
  · skip
    exact absurd c_113 (by decide)
  refine x_aloadn (pc := 123) dX12_numberOf_123 rfl ?_
  refine x_getI (pc := 124) dX12_numberOf_124 fl_X12_234 k_127 (hL 127 (by decide) (by decide)) ?_
  rw [g1]
  refine x_sipush (pc := 127) dX12_numberOf_127 (by decide) ?_
  refine x_cne (tgt := 135) (pc := 130) dX12_numberOf_130 (by decide) (by omega) (fun c_130 => ?_) (fun c_130 => ?_)
  · skip
    have hn15 : ns.length < 1500 := by omega
    refine x_aloadn (pc := 135) dX12_numberOf_135 rfl ?_
    refine x_getR (154) (pc := 136) dX12_numberOf_136 fl_X12_90 k_127 (hL 127 (by decide) (by decide)) (f_127_32 hF) ?_
    refine x_iloadn (pc := 139) dX12_numberOf_139 rfl ?_
    refine x_aloadn (pc := 140) dX12_numberOf_140 rfl ?_
    refine x_getI (pc := 141) dX12_numberOf_141 fl_X12_234 k_127 (hL 127 (by decide) (by decide)) ?_
    rw [g1]
    refine x_iastF (sl) (pc := 144) dX12_numberOf_144 k_154 (hL 154 (by decide) (by decide)) (⟨by omega, by omega, by decide⟩) hF (fun hF => ?_)
    refine x_aloadn (pc := 145) dX12_numberOf_145 rfl ?_
    refine x_getR (149) (pc := 146) dX12_numberOf_146 fl_X12_74 k_127 (hL 127 (by decide) (by decide)) (f_127_27 hF) ?_
    refine x_aloadn (pc := 149) dX12_numberOf_149 rfl ?_
    refine x_getI (pc := 150) dX12_numberOf_150 fl_X12_234 k_127 (hL 127 (by decide) (by decide)) ?_
    rw [x_up_ne (by decide), g1]
    refine x_aloadn (pc := 153) dX12_numberOf_153 rfl ?_
    refine x_getI (pc := 154) dX12_numberOf_154 fl_X12_224 k_127 (hL 127 (by decide) (by decide)) ?_
    rw [x_up_ne (by decide), b1]
    refine x_iastF (ns.length) (pc := 157) dX12_numberOf_157 k_149 (hL 149 (by decide) (by decide)) (⟨by omega, by omega, by decide⟩) hF (fun hF => ?_)
    refine x_aloadn (pc := 158) dX12_numberOf_158 rfl ?_
    refine x_getR (150) (pc := 159) dX12_numberOf_159 fl_X12_77 k_127 (hL 127 (by decide) (by decide)) (f_127_28 hF) ?_
    refine x_aloadn (pc := 162) dX12_numberOf_162 rfl ?_
    refine x_getI (pc := 163) dX12_numberOf_163 fl_X12_234 k_127 (hL 127 (by decide) (by decide)) ?_
    rw [x_up_ne (by decide), x_up_ne (by decide), g1]
    refine x_aloadn (pc := 166) dX12_numberOf_166 rfl ?_
    refine x_getI (pc := 167) dX12_numberOf_167 fl_X12_224 k_127 (hL 127 (by decide) (by decide)) ?_
    rw [x_up_ne (by decide), x_up_ne (by decide), b1]
    refine x_aloadn (pc := 170) dX12_numberOf_170 rfl ?_
    refine x_getI (pc := 171) dX12_numberOf_171 fl_X12_227 k_127 (hL 127 (by decide) (by decide)) ?_
    rw [x_up_ne (by decide), x_up_ne (by decide), b2]
    refine x_iadd (pc := 174) dX12_numberOf_174 ?_
    refine x_iastF (ns.length) (pc := 175) dX12_numberOf_175 k_150 (hL 150 (by decide) (by decide)) (⟨by omega, by omega, by decide⟩) hF (fun hF => ?_)
    refine x_iconst (pc := 176) dX12_numberOf_176 ?_
    refine x_istoren (pc := 177) dX12_numberOf_177 rfl (by decide) rfl ?_
    refine l_mo_noA hL (hab.FM q (by decide) (by decide) (by decide) (by decide) (by decide)) hl24 hn15 (by rw [q _ _ (by decide) (fun _ => by decide)]; exact g1) (fun G3 hc hF => ?_) A.length 0 _ (Nat.zero_add _) ⟨FM.rf, fun x hx => rfl, fun j hj => absurd hj (Nat.not_lt_zero j)⟩ hF
    have hm3 : G3 127 33 = ((ns.length : Nat) : Int) := by rw [hc.1 _ _ (by decide) (fun _ => by decide), q _ _ (by decide) (fun _ => by decide)]; exact g1
    exact l_mo_noE hL hF hs hno hn15 hl24 g2 hvn ht hts hi hsl hp h0 hc hm3
  · skip
    refine x_iconst (pc := 133) dX12_numberOf_133 ?_
    refine x_rI (pc := 134) dX12_numberOf_134 rfl ?_
    exact ⟨Or.inr (Or.inl ⟨hno, by omega, rfl, rfl⟩), hF⟩
theorem l_mo_no74 {G : Nat → Nat → Int} {o2 : Option (Nat × Int)} {t : Nat → Nat} (hL : x_SL L) (hF : x_Fin xFL G) (hs : s = (A, B)) (hv : zvS s) (hab : mAB A B G) (hg : mGm ns G) (hn : ns.length ≤ 1500) (hnd : ns.Nodup) (hvn : ∀ u, u ∈ ns → zvS u) (ht : zHT zhb ns t) (hts : ∀ i, i < 4096 → G 154 i = ((t i : Nat) : Int) - 1) :
    ∀ (r i sl : Nat), i + r = 4096 → sl = (zhb s + i) % 4096 → (∀ i', i' < i → t ((zhb s + i') % 4096) ≠ 0 ∧ ns[t ((zhb s + i') % 4096) - 1]? ≠ some s) →
    X mX12_numberOf 1 0 0 (pNo L G ns s) 74 [some (vR 127), some (vI sl), o2] [] L G 0 0 := by
  have hvA : zb8 A := by have := hv.b8.1; rw [hs] at this; exact this
  have hvB : zb8 B := by have := hv.b8.2; rw [hs] at this; exact this
  have hl24 : A.length + B.length ≤ 24 := by have := hv.2.2.1; rw [hs] at this; exact this
  intro r
  induction r with
  | zero =>
    intro i sl hi hsl hp
    exact absurd (zHT_free ht (by omega) (fun i' h' => (hp i' (by omega)).1)) id
  | succ r ih =>
    intro i sl hi hsl hp
    have hsl2 : sl < 4096 := by omega
    have htl := ht.1 sl hsl2
    have hg0 := hts sl hsl2
    by_cases c : t sl = 0
    · have hno : s ∉ ns := zHT_out ht hp (by rw [← hsl]; exact c)
      rw [c] at hg0
      refine x_aloadn (pc := 74) dX12_numberOf_74 rfl ?_
      refine x_getR (154) (pc := 75) dX12_numberOf_75 fl_X12_90 k_127 (hL 127 (by decide) (by decide)) (f_127_32 hF) ?_
      refine x_iloadn (pc := 78) dX12_numberOf_78 rfl ?_
      refine x_iald (sl) (pc := 79) dX12_numberOf_79 k_154 (hL 154 (by decide) (by decide)) (⟨by omega, by omega, by decide⟩) ?_
      rw [hg0]
      refine x_ilt (tgt := 107) (pc := 80) dX12_numberOf_80 (by decide) (by omega) (fun c_80 => ?_) (fun c_80 => ?_)
      rotate_left
      · skip
        exact absurd c_80 (by decide)
      exact l_mo_noN hL hF hs hv hab hg hn hno hvn ht hts (show i < 4096 by omega) hsl (fun i' h' => (hp i' h').1) c
    · obtain ⟨u, hu⟩ : ∃ u, ns[t sl - 1]? = some u := ⟨ns[t sl - 1]'(by omega), List.getElem?_eq_getElem (by omega)⟩
      have hvu := hvn u (List.mem_of_getElem? hu)
      have hidx : ((t sl : Nat) : Int) - 1 = ((t sl - 1 : Nat) : Int) := by omega
      rw [hidx] at hg0
      have hsl3 : (((sl : Nat) : Int) + 1) % 4096 = (((sl + 1) % 4096 : Nat) : Int) := by omega
      have nxt : ns[t sl - 1]? ≠ some s → ∀ i', i' < i + 1 → t ((zhb s + i') % 4096) ≠ 0 ∧ ns[t ((zhb s + i') % 4096) - 1]? ≠ some s := fun q i' h' => by
        by_cases k : i' = i
        · rw [k, ← hsl]; exact ⟨c, q⟩
        · exact hp i' (by omega)
      have ihx := fun q => ih (i + 1) ((sl + 1) % 4096) (by omega) (by omega) (nxt q)
      by_cases hus : u = s
      · have hzi : zix ns s = t sl - 1 := zix_un _ _ _ hnd (by rw [hu, hus])
        have hsm : s ∈ ns := by rw [← hus]; exact List.mem_of_getElem? hu
        refine x_aloadn (pc := 74) dX12_numberOf_74 rfl ?_
        refine x_getR (154) (pc := 75) dX12_numberOf_75 fl_X12_90 k_127 (hL 127 (by decide) (by decide)) (f_127_32 hF) ?_
        refine x_iloadn (pc := 78) dX12_numberOf_78 rfl ?_
        refine x_iald (sl) (pc := 79) dX12_numberOf_79 k_154 (hL 154 (by decide) (by decide)) (⟨by omega, by omega, by decide⟩) ?_
        rw [hg0]
        refine x_ilt (tgt := 107) (pc := 80) dX12_numberOf_80 (by decide) (by omega) (fun c_80 => ?_) (fun c_80 => ?_)
        · skip
          exact absurd c_80 (by omega)
        refine x_aloadn (pc := 83) dX12_numberOf_83 rfl ?_
        refine x_aloadn (pc := 84) dX12_numberOf_84 rfl ?_
        refine x_getR (154) (pc := 85) dX12_numberOf_85 fl_X12_90 k_127 (hL 127 (by decide) (by decide)) (f_127_32 hF) ?_
        refine x_iloadn (pc := 88) dX12_numberOf_88 rfl ?_
        refine x_iald (sl) (pc := 89) dX12_numberOf_89 k_154 (hL 154 (by decide) (by decide)) (⟨by omega, by omega, by decide⟩) ?_
        rw [hg0]
        refine x_cVI (pc := 90) dX12_numberOf_90 lk_X12_231 (c_mo_isMet (k := t sl - 1) hL hF hg.2.1 hab hu (by omega) hvu hvA hvB (by omega)) k_127 ⟨by decide, rfl⟩ (hL 127 (by decide) (by decide)) (⟨by decide, by decide⟩) (Nat.le_of_ble_eq_true rfl) rfl ?_
        rintro x G' ⟨hx, h_G⟩
        obtain rfl := h_G.symm
        have hx1 : x = 1 := by
          rcases hx with ⟨w, _⟩ | ⟨_, w⟩
          · exact w
          · exact absurd (hus.trans hs) w
        refine x_ine (tgt := 107) (pc := 93) dX12_numberOf_93 (by decide) (by omega) (fun c_93 => ?_) (fun c_93 => ?_)
        rotate_left
        · skip
          exact absurd (show x = 0 by omega) (by omega)
        refine x_aloadn (pc := 107) dX12_numberOf_107 rfl ?_
        refine x_getR (154) (pc := 108) dX12_numberOf_108 fl_X12_90 k_127 (hL 127 (by decide) (by decide)) (f_127_32 hF) ?_
        refine x_iloadn (pc := 111) dX12_numberOf_111 rfl ?_
        refine x_iald (sl) (pc := 112) dX12_numberOf_112 k_154 (hL 154 (by decide) (by decide)) (⟨by omega, by omega, by decide⟩) ?_
        rw [hg0]
        refine x_ilt (tgt := 123) (pc := 113) dX12_numberOf_113 (by decide) (by omega) (fun c_113 => ?_) (fun c_113 => ?_)
        · skip
          exact absurd c_113 (by omega)
        refine x_aloadn (pc := 116) dX12_numberOf_116 rfl ?_
        refine x_getR (154) (pc := 117) dX12_numberOf_117 fl_X12_90 k_127 (hL 127 (by decide) (by decide)) (f_127_32 hF) ?_
        refine x_iloadn (pc := 120) dX12_numberOf_120 rfl ?_
        refine x_iald (sl) (pc := 121) dX12_numberOf_121 k_154 (hL 154 (by decide) (by decide)) (⟨by omega, by omega, by decide⟩) ?_
        rw [hg0]
        refine x_rI (pc := 122) dX12_numberOf_122 rfl ?_
        exact ⟨Or.inl ⟨hsm, by rw [hzi], rfl⟩, hF⟩
      · skip
        refine x_aloadn (pc := 74) dX12_numberOf_74 rfl ?_
        refine x_getR (154) (pc := 75) dX12_numberOf_75 fl_X12_90 k_127 (hL 127 (by decide) (by decide)) (f_127_32 hF) ?_
        refine x_iloadn (pc := 78) dX12_numberOf_78 rfl ?_
        refine x_iald (sl) (pc := 79) dX12_numberOf_79 k_154 (hL 154 (by decide) (by decide)) (⟨by omega, by omega, by decide⟩) ?_
        rw [hg0]
        refine x_ilt (tgt := 107) (pc := 80) dX12_numberOf_80 (by decide) (by omega) (fun c_80 => ?_) (fun c_80 => ?_)
        · skip
          exact absurd c_80 (by omega)
        refine x_aloadn (pc := 83) dX12_numberOf_83 rfl ?_
        refine x_aloadn (pc := 84) dX12_numberOf_84 rfl ?_
        refine x_getR (154) (pc := 85) dX12_numberOf_85 fl_X12_90 k_127 (hL 127 (by decide) (by decide)) (f_127_32 hF) ?_
        refine x_iloadn (pc := 88) dX12_numberOf_88 rfl ?_
        refine x_iald (sl) (pc := 89) dX12_numberOf_89 k_154 (hL 154 (by decide) (by decide)) (⟨by omega, by omega, by decide⟩) ?_
        rw [hg0]
        refine x_cVI (pc := 90) dX12_numberOf_90 lk_X12_231 (c_mo_isMet (k := t sl - 1) hL hF hg.2.1 hab hu (by omega) hvu hvA hvB (by omega)) k_127 ⟨by decide, rfl⟩ (hL 127 (by decide) (by decide)) (⟨by decide, by decide⟩) (Nat.le_of_ble_eq_true rfl) rfl ?_
        rintro x G' ⟨hx, h_G⟩
        obtain rfl := h_G.symm
        have hx1 : x = 0 := by
          rcases hx with ⟨_, w⟩ | ⟨w, _⟩
          · exact absurd (w.trans hs.symm) hus
          · exact w
        refine x_ine (tgt := 107) (pc := 93) dX12_numberOf_93 (by decide) (by omega) (fun c_93 => ?_) (fun c_93 => ?_)
        · skip
          exact absurd hx1 c_93
        refine x_iloadn (pc := 96) dX12_numberOf_96 rfl ?_
        refine x_iconst (pc := 97) dX12_numberOf_97 ?_
        refine x_iadd (pc := 98) dX12_numberOf_98 ?_
        refine x_sipush (pc := 99) dX12_numberOf_99 (by decide) ?_
        refine x_irem (pc := 102) dX12_numberOf_102 (by omega) ?_
        rw [hsl3]
        refine x_istoren (pc := 103) dX12_numberOf_103 rfl (by decide) rfl ?_
        refine x_goto (tgt := 74) (pc := 104) dX12_numberOf_104 (by decide) ?_
        exact ihx (fun q => hus (by rw [hu] at q; exact Option.some.inj q))
theorem l_mo_noH2 {G : Nat → Nat → Int} (hL : x_SL L) (hF : x_Fin xFL G) (hs : s = (A, B)) (hv : zvS s) (hab : mAB A B G) (hg : mGm ns G) (hn : ns.length ≤ 1500) (hnd : ns.Nodup) (hvn : ∀ u, u ∈ ns → zvS u) :
    ∀ (r i : Nat) (h : Int), i + r = B.length → zhf 37 h (B.drop i) = zhf 37 (zhf 31 ((s.1.length : Nat) : Int) s.1) s.2 →
    X mX12_numberOf 1 0 0 (pNo L G ns s) 37 [some (vR 127), some (vI h), some (vI i)] [] L G 0 0 := by
  obtain ⟨b1, b2, b3, b4⟩ := id hab
  have hl24 : A.length + B.length ≤ 24 := by have := hv.2.2.1; rw [hs] at this; exact this
  obtain ⟨z1, z2⟩ := zhb_i s
  intro r
  induction r with
  | zero =>
    intro i h hi hh
    have hi : i = B.length := by omega
    subst hi
    rw [List.drop_length] at hh
    have hh : h = zhf 37 (zhf 31 ((s.1.length : Nat) : Int) s.1) s.2 := hh
    rw [← hh] at z1
    obtain ⟨t, t1, t2⟩ := hg.2.2
    refine x_iloadn (pc := 37) dX12_numberOf_37 rfl ?_
    refine x_aloadn (pc := 38) dX12_numberOf_38 rfl ?_
    refine x_getI (pc := 39) dX12_numberOf_39 fl_X12_227 k_127 (hL 127 (by decide) (by decide)) ?_
    rw [b2]
    refine x_cge (tgt := 65) (pc := 42) dX12_numberOf_42 (by decide) (by omega) (fun c_42 => ?_) (fun c_42 => ?_)
    rotate_left
    · skip
      exact absurd c_42 (by omega)
    refine x_iloadn (pc := 65) dX12_numberOf_65 rfl ?_
    refine x_ldc (pc := 66) dX12_numberOf_66 co_X12_230 ?_
    refine x_iandm (pc := 68) dX12_numberOf_68 31 2147483648 (by decide) (by decide) (by decide) ?_
    refine x_sipush (pc := 69) dX12_numberOf_69 (by decide) ?_
    refine x_irem (pc := 72) dX12_numberOf_72 (by omega) ?_
    rw [z1]
    refine x_istoren (pc := 73) dX12_numberOf_73 rfl (by decide) rfl ?_
    exact l_mo_no74 hL hF hs hv hab hg hn hnd hvn t1 t2 4096 0 (zhb s) (by omega) (by omega) (fun i' h' => absurd h' (Nat.not_lt_zero i'))
  | succ r ih =>
    intro i h hi hh
    have hx := b4 i (by omega)
    rw [zdr_at (show i < B.length by omega), zhf] at hh
    refine x_iloadn (pc := 37) dX12_numberOf_37 rfl ?_
    refine x_aloadn (pc := 38) dX12_numberOf_38 rfl ?_
    refine x_getI (pc := 39) dX12_numberOf_39 fl_X12_227 k_127 (hL 127 (by decide) (by decide)) ?_
    rw [b2]
    refine x_cge (tgt := 65) (pc := 42) dX12_numberOf_42 (by decide) (by omega) (fun c_42 => ?_) (fun c_42 => ?_)
    · skip
      exact absurd c_42 (by omega)
    refine x_bipush (pc := 45) dX12_numberOf_45 (by decide) ?_
    refine x_iloadn (pc := 47) dX12_numberOf_47 rfl ?_
    refine x_imul (pc := 48) dX12_numberOf_48 ?_
    refine x_aloadn (pc := 49) dX12_numberOf_49 rfl ?_
    refine x_getR (156) (pc := 50) dX12_numberOf_50 fl_X12_96 k_127 (hL 127 (by decide) (by decide)) (f_127_36 hF) ?_
    refine x_iloadn (pc := 53) dX12_numberOf_53 rfl ?_
    refine x_iald (i) (pc := 54) dX12_numberOf_54 k_156 (hL 156 (by decide) (by decide)) (⟨by omega, by omega, by decide⟩) ?_
    rw [hx]
    refine x_iadd (pc := 55) dX12_numberOf_55 ?_
    refine x_iconst (pc := 56) dX12_numberOf_56 ?_
    refine x_iadd (pc := 57) dX12_numberOf_57 ?_
    refine x_istoren (pc := 58) dX12_numberOf_58 rfl (by decide) rfl ?_
    refine x_iinc (pc := 59) dX12_numberOf_59 rfl (by decide) rfl ?_
    refine x_goto (tgt := 37) (pc := 62) dX12_numberOf_62 (by decide) ?_
    exact ih (i + 1) _ (by omega) hh
theorem l_mo_noH1 {G : Nat → Nat → Int} (hL : x_SL L) (hF : x_Fin xFL G) (hs : s = (A, B)) (hv : zvS s) (hab : mAB A B G) (hg : mGm ns G) (hn : ns.length ≤ 1500) (hnd : ns.Nodup) (hvn : ∀ u, u ∈ ns → zvS u) :
    ∀ (r i : Nat) (h : Int), i + r = A.length → zhf 31 h (A.drop i) = zhf 31 ((s.1.length : Nat) : Int) s.1 →
    X mX12_numberOf 1 0 0 (pNo L G ns s) 7 [some (vR 127), some (vI h), some (vI i)] [] L G 0 0 := by
  obtain ⟨b1, b2, b3, b4⟩ := id hab
  have hl24 : A.length + B.length ≤ 24 := by have := hv.2.2.1; rw [hs] at this; exact this
  intro r
  induction r with
  | zero =>
    intro i h hi hh
    have hi : i = A.length := by omega
    subst hi
    rw [List.drop_length] at hh
    have hh : h = zhf 31 ((s.1.length : Nat) : Int) s.1 := hh
    refine x_iloadn (pc := 7) dX12_numberOf_7 rfl ?_
    refine x_aloadn (pc := 8) dX12_numberOf_8 rfl ?_
    refine x_getI (pc := 9) dX12_numberOf_9 fl_X12_224 k_127 (hL 127 (by decide) (by decide)) ?_
    rw [b1]
    refine x_cge (tgt := 35) (pc := 12) dX12_numberOf_12 (by decide) (by omega) (fun c_12 => ?_) (fun c_12 => ?_)
    rotate_left
    · skip
      exact absurd c_12 (by omega)
    refine x_iconst (pc := 35) dX12_numberOf_35 ?_
    refine x_istoren (pc := 36) dX12_numberOf_36 rfl (by decide) rfl ?_
    exact l_mo_noH2 hL hF hs hv hab hg hn hnd hvn B.length 0 h (Nat.zero_add _) (by rw [List.drop_zero, hh, hs])
  | succ r ih =>
    intro i h hi hh
    have hx := b3 i (by omega)
    rw [zdr_at (show i < A.length by omega), zhf] at hh
    refine x_iloadn (pc := 7) dX12_numberOf_7 rfl ?_
    refine x_aloadn (pc := 8) dX12_numberOf_8 rfl ?_
    refine x_getI (pc := 9) dX12_numberOf_9 fl_X12_224 k_127 (hL 127 (by decide) (by decide)) ?_
    rw [b1]
    refine x_cge (tgt := 35) (pc := 12) dX12_numberOf_12 (by decide) (by omega) (fun c_12 => ?_) (fun c_12 => ?_)
    · skip
      exact absurd c_12 (by omega)
    refine x_bipush (pc := 15) dX12_numberOf_15 (by decide) ?_
    refine x_iloadn (pc := 17) dX12_numberOf_17 rfl ?_
    refine x_imul (pc := 18) dX12_numberOf_18 ?_
    refine x_aloadn (pc := 19) dX12_numberOf_19 rfl ?_
    refine x_getR (155) (pc := 20) dX12_numberOf_20 fl_X12_93 k_127 (hL 127 (by decide) (by decide)) (f_127_35 hF) ?_
    refine x_iloadn (pc := 23) dX12_numberOf_23 rfl ?_
    refine x_iald (i) (pc := 24) dX12_numberOf_24 k_155 (hL 155 (by decide) (by decide)) (⟨by omega, by omega, by decide⟩) ?_
    rw [hx]
    refine x_iadd (pc := 25) dX12_numberOf_25 ?_
    refine x_iconst (pc := 26) dX12_numberOf_26 ?_
    refine x_iadd (pc := 27) dX12_numberOf_27 ?_
    refine x_istoren (pc := 28) dX12_numberOf_28 rfl (by decide) rfl ?_
    refine x_iinc (pc := 29) dX12_numberOf_29 rfl (by decide) rfl ?_
    refine x_goto (tgt := 7) (pc := 32) dX12_numberOf_32 (by decide) ?_
    exact ih (i + 1) _ (by omega) hh
theorem c_mo_numberOf {G : Nat → Nat → Int} (hL : x_SL L) (hF : x_Fin xFL G) (hs : s = (A, B)) (hv : zvS s) (hab : mAB A B G) (hg : mGm ns G) (hn : ns.length ≤ 1500) (hnd : ns.Nodup) (hvn : ∀ u, u ∈ ns → zvS u) :
    CM yX12_numberOf mX12_numberOf 1 0 0 [vR 127] L G (pNo L G ns s) := by
  have b1 := hab.1
  refine Ct.of_X (μ := mX12_numberOf) rfl rfl (by decide) (fun h => by cases h) (Nat.le_of_ble_eq_true rfl) rfl ?_
  refine x_aloadn (pc := 0) dX12_numberOf_0 rfl ?_
  refine x_getI (pc := 1) dX12_numberOf_1 fl_X12_224 k_127 (hL 127 (by decide) (by decide)) ?_
  rw [b1]
  refine x_istoren (pc := 4) dX12_numberOf_4 rfl (by decide) rfl ?_
  refine x_iconst (pc := 5) dX12_numberOf_5 ?_
  refine x_istoren (pc := 6) dX12_numberOf_6 rfl (by decide) rfl ?_
  exact l_mo_noH1 hL hF hs hv hab hg hn hnd hvn A.length 0 _ (Nat.zero_add _) (by rw [List.drop_zero, hs])
end XNO

