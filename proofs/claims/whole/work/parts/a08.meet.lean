/-! the class: the equation that stands there is met -/
def zha (s : zSt) : Nat := (zlsh (zlx ((znr s : Nat) : Int) (((zfr s : Nat) : Int) * (-7046029254386353131)) * (-4658895280553007687)) 40 % 4096).toNat
theorem zha_i (s : zSt) : zlsh (zlx ((znr s : Nat) : Int) (((zfr s : Nat) : Int) * (-7046029254386353131)) * (-4658895280553007687)) 40 % 4096 = ((zha s : Nat) : Int) ∧ zha s < 4096 := by
  unfold zha
  omega
def zdn (ns : List zSt) : Int := if ([], []) ∈ ns then ((zix ns ([], []) : Nat) : Int) else -1
def cGn (ns : List zSt) (G : Nat → Nat → Int) : Prop := G 173 13 = ((ns.length : Nat) : Int) ∧ G 173 14 = zdn ns ∧ (∀ k s, ns[k]? = some s → G 184 k = ((znr s : Nat) : Int) ∧ G 185 k = ((zfr s : Nat) : Int)) ∧ ∃ t, zHT zha ns t ∧ ∀ i, i < 4096 → G 186 i = ((t i : Nat) : Int)
theorem cGn.FR {ns : List zSt} {S : List Nat} {G G' : Nat → Nat → Int} (h : cGn ns G) (k : FR S G G') (h0 : 173 ∉ S) (h1 : 184 ∉ S) (h2 : 185 ∉ S) (h3 : 186 ∉ S) : cGn ns G' := by
  unfold cGn
  rw [k _ h0, k _ h1, k _ h2, k _ h3]; exact h
abbrev z_meS : List Nat := [179, 173, 184, 185, 186, 189]
def pMt (ns : List zSt) (s : zSt) (e : Int) (G0 G' : Nat → Nat → Int) (x : Int) : Prop :=
  (s ∈ ns ∧ x = ((zix ns s : Nat) : Int) ∧ cGn ns G' ∧ FR [179] G0 G') ∨
  (s ∉ ns ∧ ns.length = 1500 ∧ x = -1 ∧ G' 173 15 = 1 ∧ G' 173 16 = G0 173 16 ∧ G' 173 13 = G0 173 13 ∧ FR z_meS G0 G') ∨
  (s ∉ ns ∧ ns.length < 1500 ∧ x = ((ns.length : Nat) : Int) ∧ cGn (ns ++ [s]) G' ∧ G' 189 ns.length = e ∧ (∀ j, j ≠ ns.length → G' 189 j = G0 189 j) ∧ G' 173 15 = G0 173 15 ∧ G' 173 16 = G0 173 16 ∧ FR z_meS G0 G')
abbrev pMe (L : List Nat) (G0 : Nat → Nat → Int) (ns : List zSt) (s : zSt) (e : Int) : x_Q := qI L fun x G' => pMt ns s e G0 G' x ∧ x_Fin xFL G' ∧ x_Fin xGL G'
theorem zme_p1 {G : Nat → Nat → Int} {sl n : Nat} {z1 z2 z3 z4 z5 z6 : Int} (h6 : G 173 14 = z6) (r j : Nat) : x_up (x_up (x_up (x_up (x_up G 186 sl z1) 184 n z2) 185 n z3) 189 n z4) 173 13 z5 r j = if r = 173 ∧ j = 13 then z5 else if r = 173 ∧ j = 14 then z6 else if r = 186 ∧ j = sl then z1 else if r = 184 ∧ j = n then z2 else if r = 185 ∧ j = n then z3 else if r = 189 ∧ j = n then z4 else G r j := by
  unfold x_up
  by_cases q1 : r = 173
  · subst q1
    by_cases q2 : j = 13
    · simp [q2]
    · by_cases q3 : j = 14
      · subst q3; simp [h6]
      · simp [q2, q3]
  · skip
    by_cases q4 : r = 189
    · subst q4; simp
    · by_cases q5 : r = 185
      · subst q5; simp
      · by_cases q6 : r = 184
        · subst q6; simp
        · simp [q1, q4, q5, q6]
theorem zme_p2 {G : Nat → Nat → Int} {sl n : Nat} {z1 z2 z3 z4 z5 z6 : Int} (r j : Nat) : x_up (x_up (x_up (x_up (x_up (x_up G 186 sl z1) 184 n z2) 185 n z3) 189 n z4) 173 14 z6) 173 13 z5 r j = if r = 173 ∧ j = 13 then z5 else if r = 173 ∧ j = 14 then z6 else if r = 186 ∧ j = sl then z1 else if r = 184 ∧ j = n then z2 else if r = 185 ∧ j = n then z3 else if r = 189 ∧ j = n then z4 else G r j := by
  unfold x_up
  by_cases q1 : r = 173
  · subst q1
    by_cases q2 : j = 13
    · simp [q2]
    · by_cases q3 : j = 14
      · subst q3; simp
      · simp [q2, q3]
  · skip
    by_cases q4 : r = 189
    · subst q4; simp
    · by_cases q5 : r = 185
      · subst q5; simp
      · by_cases q6 : r = 184
        · subst q6; simp
        · simp [q1, q4, q5, q6]
section XME
variable {L : List Nat} {ns : List zSt} {s : zSt} {e : Int}
theorem zdn_new (hs : s ∉ ns) : zdn (ns ++ [s]) = if zfr s = 0 then ((ns.length : Nat) : Int) else zdn ns := by
  unfold zdn
  by_cases c : s = ([], [])
  · subst c
    rw [if_pos (zfr_0.mpr rfl), if_pos (List.mem_append_right _ (List.mem_singleton.mpr rfl)), zix_new _ _ hs]
  · rw [if_neg (fun w => c (zfr_0.mp w))]
    by_cases d : ([], []) ∈ ns
    · rw [if_pos (List.mem_append_left _ d), if_pos d, zix_app _ _ _ d]
    · rw [if_neg (fun w => (List.mem_append.mp w).elim d (fun q => c (List.mem_singleton.mp q).symm)), if_neg d]
/-- a new one -/
theorem l_gr_me129 {sl : Nat} {w : Int} {i : Nat} {o6 : Option (Nat × Int)} {t : Nat → Nat} {G0 G : Nat → Nat → Int} (hL : x_SL L) (hM : x_GM L) (hF : x_Fin xFL G) (hG : x_Fin xGL G) (hn : ns.length ≤ 1500) (hs : s ∉ ns) (hv : zvS s) (h : cGn ns G) (ht : zHT zha ns t) (hts : ∀ i, i < 4096 → G 186 i = ((t i : Nat) : Int)) (e1 : G 179 3 = ((znr s : Nat) : Int)) (e2 : G 179 4 = ((zfr s : Nat) : Int)) (hQ : FR [179] G0 G) (hi : i < 4096) (hsl : sl = (zha s + i) % 4096) (hp : ∀ i', i' < i → t ((zha s + i') % 4096) ≠ 0) (h0 : t sl = 0) :
    X mX5_meet 1 0 0 (pMe L G0 ns s e) 129 [some (vR 173), some (vI e), some (vL w), none, some (vI sl), some (vI i), o6] [] L G 0 0 := by
  obtain ⟨g1, g2, g3, _⟩ := id h
  obtain ⟨f1, f2, f3⟩ := zfr_len hv
  have hsl2 : sl < 4096 := by omega
  have hdn := zdn_new hs
  have fin : ∀ (d : Int), d = zdn (ns ++ [s]) → ∀ G' : Nat → Nat → Int, (∀ r j, G' r j = if r = 173 ∧ j = 13 then ((ns.length : Nat) : Int) + 1 else if r = 173 ∧ j = 14 then d else if r = 186 ∧ j = sl then ((ns.length : Nat) : Int) + 1 else if r = 184 ∧ j = ns.length then ((znr s : Nat) : Int) else if r = 185 ∧ j = ns.length then ((zfr s : Nat) : Int) else if r = 189 ∧ j = ns.length then e else G r j) → cGn (ns ++ [s]) G' ∧ G' 189 ns.length = e ∧ (∀ j, j ≠ ns.length → G' 189 j = G0 189 j) ∧ G' 173 15 = G0 173 15 ∧ G' 173 16 = G0 173 16 := fun d hd G' hG' => by
    refine ⟨⟨?_, ?_, fun k u hk => ?_, fun x => if x = sl then ns.length + 1 else t x, zHT_new ht hi hp (by rw [← hsl]; exact h0) (by rw [← hsl, if_pos rfl]) (fun x hx => if_neg (by rw [hsl]; exact hx)), fun x hx => ?_⟩, ?_, fun j hj => ?_, ?_, ?_⟩
    · rw [hG', if_pos ⟨rfl, rfl⟩, List.length_append]; rfl
    · rw [hG', if_neg (by decide), if_pos ⟨rfl, rfl⟩]; exact hd
    · rw [List.getElem?_append] at hk
      split at hk
      · rename_i hkl
        obtain ⟨b1, b2⟩ := g3 k u hk
        rw [hG', hG', if_neg (by simp), if_neg (by simp), if_neg (by simp), if_neg (by omega), if_neg (by simp), if_neg (by simp), if_neg (by simp), if_neg (by simp), if_neg (by simp), if_neg (by simp), if_neg (by omega), if_neg (by simp)]
        exact ⟨b1, b2⟩
      · rename_i hkl
        have hk0 : k - ns.length = 0 := by
          rcases Nat.eq_zero_or_pos (k - ns.length) with q | q
          · exact q
          · rw [List.getElem?_eq_none (by rw [List.length_singleton]; omega)] at hk; cases hk
        rw [hk0] at hk
        have eu : s = u := by simpa using hk
        have ek : k = ns.length := by omega
        rw [hG', hG', if_neg (by simp), if_neg (by simp), if_neg (by simp), if_pos ⟨rfl, ek⟩, if_neg (by simp), if_neg (by simp), if_neg (by simp), if_neg (by simp), if_pos ⟨rfl, ek⟩, eu]
        exact ⟨rfl, rfl⟩
    · show G' 186 x = (((if x = sl then ns.length + 1 else t x) : Nat) : Int)
      rw [hG', if_neg (by simp), if_neg (by simp)]
      by_cases c : x = sl
      · rw [if_pos ⟨rfl, c⟩, if_pos c]; rfl
      · rw [if_neg (fun w => c w.2), if_neg c, if_neg (by simp), if_neg (by simp), if_neg (by simp)]
        exact hts x hx
    · rw [hG', if_neg (by simp), if_neg (by simp), if_neg (by simp), if_neg (by simp), if_neg (by simp), if_pos ⟨rfl, rfl⟩]
    · rw [hG', if_neg (by simp), if_neg (by simp), if_neg (by simp), if_neg (by simp), if_neg (by simp), if_neg (fun w => hj w.2), hQ _ (by decide)]
    · rw [hG', if_neg (by decide), if_neg (by decide), if_neg (by simp), if_neg (by simp), if_neg (by simp), if_neg (by simp), hQ _ (by decide)]
    · rw [hG', if_neg (by decide), if_neg (by decide), if_neg (by simp), if_neg (by simp), if_neg (by simp), if_neg (by simp), hQ _ (by decide)]
  refine x_aloadn (pc := 129) dX5_meet_129 rfl ?_
  refine x_getI (pc := 130) dX5_meet_130 fl_X5_57 k_173 (hM 173 (by decide) (by decide)) ?_
  rw [g1]
  refine x_sipush (pc := 133) dX5_meet_133 (by decide) ?_
  refine x_clt (tgt := 146) (pc := 136) dX5_meet_136 (by decide) (by omega) (fun c_136 => ?_) (fun c_136 => ?_)
  · skip
    have hlt : ns.length < 1500 := by omega
    refine x_aloadn (pc := 146) dX5_meet_146 rfl ?_
    refine x_getR (186) (pc := 147) dX5_meet_147 fl_X5_29 k_173 (hM 173 (by decide) (by decide)) (f_173_4 hG) ?_
    refine x_iload (pc := 150) dX5_meet_150 rfl ?_
    refine x_aloadn (pc := 152) dX5_meet_152 rfl ?_
    refine x_getI (pc := 153) dX5_meet_153 fl_X5_57 k_173 (hM 173 (by decide) (by decide)) ?_
    rw [g1]
    refine x_iconst (pc := 156) dX5_meet_156 ?_
    refine x_iadd (pc := 157) dX5_meet_157 ?_
    refine x_iastH (sl) (pc := 158) dX5_meet_158 k_186 (hM 186 (by decide) (by decide)) (⟨by omega, by omega, by decide⟩) hF hG (fun hF hG => ?_)
    refine x_aloadn (pc := 159) dX5_meet_159 rfl ?_
    refine x_getR (184) (pc := 160) dX5_meet_160 fl_X5_21 k_173 (hM 173 (by decide) (by decide)) (f_173_2 hG) ?_
    refine x_aloadn (pc := 163) dX5_meet_163 rfl ?_
    refine x_getI (pc := 164) dX5_meet_164 fl_X5_57 k_173 (hM 173 (by decide) (by decide)) ?_
    rw [x_up_ne (by decide), g1]
    refine x_aloadn (pc := 167) dX5_meet_167 rfl ?_
    refine x_getR (179) (pc := 168) dX5_meet_168 fl_X5_18 k_173 (hM 173 (by decide) (by decide)) (f_173_1 hG) ?_
    refine x_getLn (ref := "") (pc := 171) dX5_meet_171 fn_X5_119 k_179 (hM 179 (by decide) (by decide)) ?_
    rw [x_up_ne (by decide), e1]
    refine x_lastH (ns.length) (pc := 174) dX5_meet_174 k_184 (hM 184 (by decide) (by decide)) (⟨by omega, by omega, by decide⟩) hF hG (fun hF hG => ?_)
    refine x_aloadn (pc := 175) dX5_meet_175 rfl ?_
    refine x_getR (185) (pc := 176) dX5_meet_176 fl_X5_25 k_173 (hM 173 (by decide) (by decide)) (f_173_3 hG) ?_
    refine x_aloadn (pc := 179) dX5_meet_179 rfl ?_
    refine x_getI (pc := 180) dX5_meet_180 fl_X5_57 k_173 (hM 173 (by decide) (by decide)) ?_
    rw [x_up_ne (by decide), x_up_ne (by decide), g1]
    refine x_aloadn (pc := 183) dX5_meet_183 rfl ?_
    refine x_getR (179) (pc := 184) dX5_meet_184 fl_X5_18 k_173 (hM 173 (by decide) (by decide)) (f_173_1 hG) ?_
    refine x_getIn (ref := "") (pc := 187) dX5_meet_187 fn_X5_122 k_179 (hM 179 (by decide) (by decide)) ?_
    rw [x_up_ne (by decide), x_up_ne (by decide), e2]
    refine x_iastH (ns.length) (pc := 190) dX5_meet_190 k_185 (hM 185 (by decide) (by decide)) (⟨by omega, by omega, by decide⟩) hF hG (fun hF hG => ?_)
    refine x_aloadn (pc := 191) dX5_meet_191 rfl ?_
    refine x_getR (189) (pc := 192) dX5_meet_192 fl_X5_39 k_173 (hM 173 (by decide) (by decide)) (f_173_7 hG) ?_
    refine x_aloadn (pc := 195) dX5_meet_195 rfl ?_
    refine x_getI (pc := 196) dX5_meet_196 fl_X5_57 k_173 (hM 173 (by decide) (by decide)) ?_
    rw [x_up_ne (by decide), x_up_ne (by decide), x_up_ne (by decide), g1]
    refine x_iloadn (pc := 199) dX5_meet_199 rfl ?_
    refine x_iastH (ns.length) (pc := 200) dX5_meet_200 k_189 (hM 189 (by decide) (by decide)) (⟨by omega, by omega, by decide⟩) hF hG (fun hF hG => ?_)
    refine x_aloadn (pc := 201) dX5_meet_201 rfl ?_
    refine x_getR (179) (pc := 202) dX5_meet_202 fl_X5_18 k_173 (hM 173 (by decide) (by decide)) (f_173_1 hG) ?_
    refine x_getIn (ref := "") (pc := 205) dX5_meet_205 fn_X5_122 k_179 (hM 179 (by decide) (by decide)) ?_
    rw [x_up_ne (by decide), x_up_ne (by decide), x_up_ne (by decide), x_up_ne (by decide), e2]
    refine x_ine (tgt := 219) (pc := 208) dX5_meet_208 (by decide) (by omega) (fun c_208 => ?_) (fun c_208 => ?_)
    · skip
      refine x_aloadn (pc := 219) dX5_meet_219 rfl ?_
      refine x_dup (pc := 220) dX5_meet_220 (fun h => by cases h) ?_
      refine x_getI (pc := 221) dX5_meet_221 fl_X5_57 k_173 (hM 173 (by decide) (by decide)) ?_
      first
      | rw [x_up_k (by decide), x_up_ne (by decide), x_up_ne (by decide), x_up_ne (by decide), x_up_ne (by decide), g1]
      | rw [x_up_ne (by decide), x_up_ne (by decide), x_up_ne (by decide), x_up_ne (by decide), g1]
      refine x_iconst (pc := 224) dX5_meet_224 ?_
      refine x_iadd (pc := 225) dX5_meet_225 ?_
      refine x_putIH (pc := 226) dX5_meet_226 fp_X5_57 k_173 (hM 173 (by decide) (by decide)) hF hG (fun hF hG => ?_)
      refine x_aloadn (pc := 229) dX5_meet_229 rfl ?_
      refine x_getI (pc := 230) dX5_meet_230 fl_X5_57 k_173 (hM 173 (by decide) (by decide)) ?_
      rw [x_up_s]
      refine x_iconst (pc := 233) dX5_meet_233 ?_
      refine x_isub (pc := 234) dX5_meet_234 ?_
      rw [show ((ns.length : Nat) : Int) + 1 - 1 = ((ns.length : Nat) : Int) by omega]
      refine x_rI (pc := 235) dX5_meet_235 rfl ?_
      first
      | (refine ⟨Or.inr (Or.inr ⟨hs, hlt, rfl, ?_⟩), hF, hG⟩
         obtain ⟨p1, p2, p3, p4, p5⟩ := fin (zdn ns) (by rw [hdn, if_neg (by omega)]) _ (zme_p1 g2)
         exact ⟨p1, p2, p3, p4, p5, (((((hQ.mono (by decide)).up (by decide)).up (by decide)).up (by decide)).up (by decide)).up (by decide)⟩)
      | (refine ⟨Or.inr (Or.inr ⟨hs, hlt, rfl, ?_⟩), hF, hG⟩
         obtain ⟨p1, p2, p3, p4, p5⟩ := fin ((ns.length : Nat) : Int) (by rw [hdn, if_pos (by omega)]) _ zme_p2
         exact ⟨p1, p2, p3, p4, p5, ((((((hQ.mono (by decide)).up (by decide)).up (by decide)).up (by decide)).up (by decide)).up (by decide)).up (by decide)⟩)
    · skip
      refine x_aloadn (pc := 211) dX5_meet_211 rfl ?_
      refine x_aloadn (pc := 212) dX5_meet_212 rfl ?_
      refine x_getI (pc := 213) dX5_meet_213 fl_X5_57 k_173 (hM 173 (by decide) (by decide)) ?_
      rw [x_up_ne (by decide), x_up_ne (by decide), x_up_ne (by decide), x_up_ne (by decide), g1]
      refine x_putIH (pc := 216) dX5_meet_216 fp_X5_61 k_173 (hM 173 (by decide) (by decide)) hF hG (fun hF hG => ?_)
      refine x_aloadn (pc := 219) dX5_meet_219 rfl ?_
      refine x_dup (pc := 220) dX5_meet_220 (fun h => by cases h) ?_
      refine x_getI (pc := 221) dX5_meet_221 fl_X5_57 k_173 (hM 173 (by decide) (by decide)) ?_
      first
      | rw [x_up_k (by decide), x_up_ne (by decide), x_up_ne (by decide), x_up_ne (by decide), x_up_ne (by decide), g1]
      | rw [x_up_ne (by decide), x_up_ne (by decide), x_up_ne (by decide), x_up_ne (by decide), g1]
      refine x_iconst (pc := 224) dX5_meet_224 ?_
      refine x_iadd (pc := 225) dX5_meet_225 ?_
      refine x_putIH (pc := 226) dX5_meet_226 fp_X5_57 k_173 (hM 173 (by decide) (by decide)) hF hG (fun hF hG => ?_)
      refine x_aloadn (pc := 229) dX5_meet_229 rfl ?_
      refine x_getI (pc := 230) dX5_meet_230 fl_X5_57 k_173 (hM 173 (by decide) (by decide)) ?_
      rw [x_up_s]
      refine x_iconst (pc := 233) dX5_meet_233 ?_
      refine x_isub (pc := 234) dX5_meet_234 ?_
      rw [show ((ns.length : Nat) : Int) + 1 - 1 = ((ns.length : Nat) : Int) by omega]
      refine x_rI (pc := 235) dX5_meet_235 rfl ?_
      first
      | (refine ⟨Or.inr (Or.inr ⟨hs, hlt, rfl, ?_⟩), hF, hG⟩
         obtain ⟨p1, p2, p3, p4, p5⟩ := fin (zdn ns) (by rw [hdn, if_neg (by omega)]) _ (zme_p1 g2)
         exact ⟨p1, p2, p3, p4, p5, (((((hQ.mono (by decide)).up (by decide)).up (by decide)).up (by decide)).up (by decide)).up (by decide)⟩)
      | (refine ⟨Or.inr (Or.inr ⟨hs, hlt, rfl, ?_⟩), hF, hG⟩
         obtain ⟨p1, p2, p3, p4, p5⟩ := fin ((ns.length : Nat) : Int) (by rw [hdn, if_pos (by omega)]) _ zme_p2
         exact ⟨p1, p2, p3, p4, p5, ((((((hQ.mono (by decide)).up (by decide)).up (by decide)).up (by decide)).up (by decide)).up (by decide)).up (by decide)⟩)
  · skip
    refine x_aloadn (pc := 139) dX5_meet_139 rfl ?_
    refine x_iconst (pc := 140) dX5_meet_140 ?_
    refine x_putZH (pc := 141) dX5_meet_141 fp_X5_64 k_173 (hM 173 (by decide) (by decide)) (by omega) hF hG (fun hF hG => ?_)
    refine x_iconst (pc := 144) dX5_meet_144 ?_
    refine x_rI (pc := 145) dX5_meet_145 rfl ?_
    exact ⟨Or.inr (Or.inl ⟨hs, by omega, rfl, x_up_s, by rw [x_up_k (by decide), hQ _ (by decide)], by rw [x_up_k (by decide), hQ _ (by decide)], (hQ.mono (by decide)).up (by decide)⟩), hF, hG⟩
end XME

